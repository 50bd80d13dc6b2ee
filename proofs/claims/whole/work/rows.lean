section
-- ===== PART A: goes FIRST, ahead of the names: the tables' words, and 'selects' of the private methods out of them =====
/-- a private method of a class that the tables say can be made, by its rows of tables_1 -/
def lw_okq (q : MethodName × Nat) : Prop := (q.1.cls ≠ "java/lang/invoke/MethodHandle" ∧ q.1.cls ≠ "java/lang/invoke/VarHandle") ∧ Cond.instantiable q.1.cls q.2 ∈ tables_1 ∧ Cond.privateMethod q.1 ∈ tables_1 ∧ Cond.instanceMethod q.1 ∈ tables_1
theorem lw_p0 : lw_okq (⟨"OtherNames$Rows", "hasCell", "(II)Z"⟩, 4) := ⟨⟨by decide +kernel, by decide +kernel⟩, List.mem_of_getElem? (i := 24) (by decide +kernel), List.mem_of_getElem? (i := 122) (by decide +kernel), List.mem_of_getElem? (i := 123) (by decide +kernel)⟩
theorem lw_p1 : lw_okq (⟨"OtherNames$People", "isHead", "(I)Z"⟩, 1) := ⟨⟨by decide +kernel, by decide +kernel⟩, List.mem_of_getElem? (i := 18) (by decide +kernel), List.mem_of_getElem? (i := 170) (by decide +kernel), List.mem_of_getElem? (i := 171) (by decide +kernel)⟩
theorem lw_p2 : lw_okq (⟨"OtherNames$People", "strikeOutAllUnder", "(I)V"⟩, 1) := ⟨⟨by decide +kernel, by decide +kernel⟩, List.mem_of_getElem? (i := 18) (by decide +kernel), List.mem_of_getElem? (i := 186) (by decide +kernel), List.mem_of_getElem? (i := 187) (by decide +kernel)⟩
theorem lw_p3 : lw_okq (⟨"OtherNames", "nameIn", "(II)I"⟩, 6) := ⟨⟨by decide +kernel, by decide +kernel⟩, List.mem_of_getElem? (i := 10) (by decide +kernel), List.mem_of_getElem? (i := 221) (by decide +kernel), List.mem_of_getElem? (i := 222) (by decide +kernel)⟩
theorem lw_p4 : lw_okq (⟨"OtherNames$Names", "countWith", "(II)I"⟩, 2) := ⟨⟨by decide +kernel, by decide +kernel⟩, List.mem_of_getElem? (i := 63) (by decide +kernel), List.mem_of_getElem? (i := 229) (by decide +kernel), List.mem_of_getElem? (i := 230) (by decide +kernel)⟩
theorem lw_p5 : lw_okq (⟨"OtherNames", "areTwoHouses", "(II)Z"⟩, 6) := ⟨⟨by decide +kernel, by decide +kernel⟩, List.mem_of_getElem? (i := 10) (by decide +kernel), List.mem_of_getElem? (i := 297) (by decide +kernel), List.mem_of_getElem? (i := 298) (by decide +kernel)⟩
theorem lw_p6 : lw_okq (⟨"OtherNames", "isBridged", "(III)Z"⟩, 6) := ⟨⟨by decide +kernel, by decide +kernel⟩, List.mem_of_getElem? (i := 10) (by decide +kernel), List.mem_of_getElem? (i := 307) (by decide +kernel), List.mem_of_getElem? (i := 308) (by decide +kernel)⟩
theorem lw_p7 : lw_okq (⟨"OtherNames", "crossWith", "(III)I"⟩, 6) := ⟨⟨by decide +kernel, by decide +kernel⟩, List.mem_of_getElem? (i := 10) (by decide +kernel), List.mem_of_getElem? (i := 324) (by decide +kernel), List.mem_of_getElem? (i := 325) (by decide +kernel)⟩
theorem lw_p8 : lw_okq (⟨"OtherNames", "enter", "(IIIII)V"⟩, 6) := ⟨⟨by decide +kernel, by decide +kernel⟩, List.mem_of_getElem? (i := 10) (by decide +kernel), List.mem_of_getElem? (i := 335) (by decide +kernel), List.mem_of_getElem? (i := 336) (by decide +kernel)⟩
theorem lw_p9 : lw_okq (⟨"OtherNames", "headBehind", "(II)I"⟩, 6) := ⟨⟨by decide +kernel, by decide +kernel⟩, List.mem_of_getElem? (i := 10) (by decide +kernel), List.mem_of_getElem? (i := 350) (by decide +kernel), List.mem_of_getElem? (i := 351) (by decide +kernel)⟩
theorem lw_p10 : lw_okq (⟨"OtherNames$People", "areAlike", "(III)Z"⟩, 1) := ⟨⟨by decide +kernel, by decide +kernel⟩, List.mem_of_getElem? (i := 18) (by decide +kernel), List.mem_of_getElem? (i := 386) (by decide +kernel), List.mem_of_getElem? (i := 387) (by decide +kernel)⟩
theorem lw_p11 : lw_okq (⟨"OtherNames", "isTooSmall", "(II)Z"⟩, 6) := ⟨⟨by decide +kernel, by decide +kernel⟩, List.mem_of_getElem? (i := 10) (by decide +kernel), List.mem_of_getElem? (i := 414) (by decide +kernel), List.mem_of_getElem? (i := 415) (by decide +kernel)⟩
theorem lw_p12 : lw_okq (⟨"OtherNames", "tellOfHouse", "(II)I"⟩, 6) := ⟨⟨by decide +kernel, by decide +kernel⟩, List.mem_of_getElem? (i := 10) (by decide +kernel), List.mem_of_getElem? (i := 462) (by decide +kernel), List.mem_of_getElem? (i := 463) (by decide +kernel)⟩
theorem lw_p13 : lw_okq (⟨"OtherNamesModel", "isPerson", "(I)Z"⟩, 26) := ⟨⟨by decide +kernel, by decide +kernel⟩, List.mem_of_getElem? (i := 466) (by decide +kernel), List.mem_of_getElem? (i := 563) (by decide +kernel), List.mem_of_getElem? (i := 564) (by decide +kernel)⟩
theorem lw_p14 : lw_okq (⟨"OtherNamesModel", "strikes", "(I)V"⟩, 26) := ⟨⟨by decide +kernel, by decide +kernel⟩, List.mem_of_getElem? (i := 466) (by decide +kernel), List.mem_of_getElem? (i := 574) (by decide +kernel), List.mem_of_getElem? (i := 575) (by decide +kernel)⟩
theorem lw_p15 : lw_okq (⟨"OtherNamesModel", "head", "(I)I"⟩, 26) := ⟨⟨by decide +kernel, by decide +kernel⟩, List.mem_of_getElem? (i := 466) (by decide +kernel), List.mem_of_getElem? (i := 578) (by decide +kernel), List.mem_of_getElem? (i := 579) (by decide +kernel)⟩
def lw_privs_1 : List (MethodName × Nat) := [(⟨"OtherNames$Rows", "hasCell", "(II)Z"⟩, 4), (⟨"OtherNames$People", "isHead", "(I)Z"⟩, 1), (⟨"OtherNames$People", "strikeOutAllUnder", "(I)V"⟩, 1), (⟨"OtherNames", "nameIn", "(II)I"⟩, 6), (⟨"OtherNames$Names", "countWith", "(II)I"⟩, 2), (⟨"OtherNames", "areTwoHouses", "(II)Z"⟩, 6), (⟨"OtherNames", "isBridged", "(III)Z"⟩, 6), (⟨"OtherNames", "crossWith", "(III)I"⟩, 6), (⟨"OtherNames", "enter", "(IIIII)V"⟩, 6), (⟨"OtherNames", "headBehind", "(II)I"⟩, 6), (⟨"OtherNames$People", "areAlike", "(III)Z"⟩, 1), (⟨"OtherNames", "isTooSmall", "(II)Z"⟩, 6), (⟨"OtherNames", "tellOfHouse", "(II)I"⟩, 6), (⟨"OtherNamesModel", "isPerson", "(I)Z"⟩, 26), (⟨"OtherNamesModel", "strikes", "(I)V"⟩, 26), (⟨"OtherNamesModel", "head", "(I)I"⟩, 26)]
theorem lw_r1 : ∀ q ∈ lw_privs_1, lw_okq q := List.forall_mem_cons.mpr ⟨lw_p0, List.forall_mem_cons.mpr ⟨lw_p1, List.forall_mem_cons.mpr ⟨lw_p2, List.forall_mem_cons.mpr ⟨lw_p3, List.forall_mem_cons.mpr ⟨lw_p4, List.forall_mem_cons.mpr ⟨lw_p5, List.forall_mem_cons.mpr ⟨lw_p6, List.forall_mem_cons.mpr ⟨lw_p7, List.forall_mem_cons.mpr ⟨lw_p8, List.forall_mem_cons.mpr ⟨lw_p9, List.forall_mem_cons.mpr ⟨lw_p10, List.forall_mem_cons.mpr ⟨lw_p11, List.forall_mem_cons.mpr ⟨lw_p12, List.forall_mem_cons.mpr ⟨lw_p13, List.forall_mem_cons.mpr ⟨lw_p14, List.forall_mem_cons.mpr ⟨lw_p15, fun _ h => absurd h List.not_mem_nil⟩⟩⟩⟩⟩⟩⟩⟩⟩⟩⟩⟩⟩⟩⟩⟩
theorem lw_p16 : lw_okq (⟨"OtherNamesModel", "isHouse", "(I)Z"⟩, 26) := ⟨⟨by decide +kernel, by decide +kernel⟩, List.mem_of_getElem? (i := 466) (by decide +kernel), List.mem_of_getElem? (i := 602) (by decide +kernel), List.mem_of_getElem? (i := 603) (by decide +kernel)⟩
theorem lw_p17 : lw_okq (⟨"OtherNamesModel", "namesOf", "(II)I"⟩, 26) := ⟨⟨by decide +kernel, by decide +kernel⟩, List.mem_of_getElem? (i := 466) (by decide +kernel), List.mem_of_getElem? (i := 606) (by decide +kernel), List.mem_of_getElem? (i := 607) (by decide +kernel)⟩
theorem lw_p18 : lw_okq (⟨"OtherNamesModel", "spanNow", "(I)I"⟩, 26) := ⟨⟨by decide +kernel, by decide +kernel⟩, List.mem_of_getElem? (i := 466) (by decide +kernel), List.mem_of_getElem? (i := 610) (by decide +kernel), List.mem_of_getElem? (i := 611) (by decide +kernel)⟩
theorem lw_p19 : lw_okq (⟨"OtherNamesModel", "firstOf", "(III)I"⟩, 26) := ⟨⟨by decide +kernel, by decide +kernel⟩, List.mem_of_getElem? (i := 466) (by decide +kernel), List.mem_of_getElem? (i := 614) (by decide +kernel), List.mem_of_getElem? (i := 615) (by decide +kernel)⟩
theorem lw_p20 : lw_okq (⟨"OtherNamesModel", "find", "(II)I"⟩, 26) := ⟨⟨by decide +kernel, by decide +kernel⟩, List.mem_of_getElem? (i := 466) (by decide +kernel), List.mem_of_getElem? (i := 622) (by decide +kernel), List.mem_of_getElem? (i := 623) (by decide +kernel)⟩
theorem lw_p21 : lw_okq (⟨"OtherNamesModel", "isHeld", "(III)Z"⟩, 26) := ⟨⟨by decide +kernel, by decide +kernel⟩, List.mem_of_getElem? (i := 466) (by decide +kernel), List.mem_of_getElem? (i := 634) (by decide +kernel), List.mem_of_getElem? (i := 635) (by decide +kernel)⟩
theorem lw_p22 : lw_okq (⟨"OtherNamesModel", "crossed", "(III)I"⟩, 26) := ⟨⟨by decide +kernel, by decide +kernel⟩, List.mem_of_getElem? (i := 466) (by decide +kernel), List.mem_of_getElem? (i := 642) (by decide +kernel), List.mem_of_getElem? (i := 643) (by decide +kernel)⟩
theorem lw_p23 : lw_okq (⟨"OtherNamesModel", "writes", "(IIIII)V"⟩, 26) := ⟨⟨by decide +kernel, by decide +kernel⟩, List.mem_of_getElem? (i := 466) (by decide +kernel), List.mem_of_getElem? (i := 646) (by decide +kernel), List.mem_of_getElem? (i := 647) (by decide +kernel)⟩
theorem lw_p24 : lw_okq (⟨"OtherNamesModel", "knows", "(II)Z"⟩, 26) := ⟨⟨by decide +kernel, by decide +kernel⟩, List.mem_of_getElem? (i := 466) (by decide +kernel), List.mem_of_getElem? (i := 670) (by decide +kernel), List.mem_of_getElem? (i := 671) (by decide +kernel)⟩
theorem lw_p25 : lw_okq (⟨"OtherNamesModel", "group", "(III)I"⟩, 26) := ⟨⟨by decide +kernel, by decide +kernel⟩, List.mem_of_getElem? (i := 466) (by decide +kernel), List.mem_of_getElem? (i := 674) (by decide +kernel), List.mem_of_getElem? (i := 675) (by decide +kernel)⟩
theorem lw_p26 : lw_okq (⟨"OtherNamesModel", "areAlike", "(III)Z"⟩, 26) := ⟨⟨by decide +kernel, by decide +kernel⟩, List.mem_of_getElem? (i := 466) (by decide +kernel), List.mem_of_getElem? (i := 678) (by decide +kernel), List.mem_of_getElem? (i := 679) (by decide +kernel)⟩
theorem lw_p27 : lw_okq (⟨"OtherNamesModel", "known", "(I)I"⟩, 26) := ⟨⟨by decide +kernel, by decide +kernel⟩, List.mem_of_getElem? (i := 466) (by decide +kernel), List.mem_of_getElem? (i := 702) (by decide +kernel), List.mem_of_getElem? (i := 703) (by decide +kernel)⟩
def lw_privs_2 : List (MethodName × Nat) := [(⟨"OtherNamesModel", "isHouse", "(I)Z"⟩, 26), (⟨"OtherNamesModel", "namesOf", "(II)I"⟩, 26), (⟨"OtherNamesModel", "spanNow", "(I)I"⟩, 26), (⟨"OtherNamesModel", "firstOf", "(III)I"⟩, 26), (⟨"OtherNamesModel", "find", "(II)I"⟩, 26), (⟨"OtherNamesModel", "isHeld", "(III)Z"⟩, 26), (⟨"OtherNamesModel", "crossed", "(III)I"⟩, 26), (⟨"OtherNamesModel", "writes", "(IIIII)V"⟩, 26), (⟨"OtherNamesModel", "knows", "(II)Z"⟩, 26), (⟨"OtherNamesModel", "group", "(III)I"⟩, 26), (⟨"OtherNamesModel", "areAlike", "(III)Z"⟩, 26), (⟨"OtherNamesModel", "known", "(I)I"⟩, 26)]
theorem lw_r2 : ∀ q ∈ lw_privs_2, lw_okq q := List.forall_mem_cons.mpr ⟨lw_p16, List.forall_mem_cons.mpr ⟨lw_p17, List.forall_mem_cons.mpr ⟨lw_p18, List.forall_mem_cons.mpr ⟨lw_p19, List.forall_mem_cons.mpr ⟨lw_p20, List.forall_mem_cons.mpr ⟨lw_p21, List.forall_mem_cons.mpr ⟨lw_p22, List.forall_mem_cons.mpr ⟨lw_p23, List.forall_mem_cons.mpr ⟨lw_p24, List.forall_mem_cons.mpr ⟨lw_p25, List.forall_mem_cons.mpr ⟨lw_p26, List.forall_mem_cons.mpr ⟨lw_p27, fun _ h => absurd h List.not_mem_nil⟩⟩⟩⟩⟩⟩⟩⟩⟩⟩⟩⟩
def lw_privs : List (MethodName × Nat) := lw_privs_1 ++ (lw_privs_2)
def lw_tbl : List Cond := k2_sels lw_privs ++ tables_1
theorem lw_privs_ok : ∀ q ∈ lw_privs, lw_okq q := by
  show ∀ q ∈ lw_privs_1 ++ (lw_privs_2), lw_okq q
  exact List.forall_mem_append.mpr ⟨lw_r1, lw_r2⟩
end
section
/-! ===== BEGIN words of one list among another's, by their places ===== -/
theorem goodIn_r {big : List Cond} (ws : List Cond) (ps : List Nat) (hp : ws = ps.filterMap (fun i => big[i]?)) (h : ws.all goodWord = true) : GoodIn big ws := by
  intro w hw
  have h1 := List.all_eq_true.mp h w hw
  rw [hp] at hw
  obtain ⟨i, -, hi⟩ := List.mem_filterMap.mp hw
  have hm : w ∈ big := by first | exact List.mem_of_getElem? hi | exact List.getElem?_mem hi
  exact ⟨hm, good_of_word h1⟩
theorem goodIn_app {big a b : List Cond} (ha : GoodIn big a) (hb : GoodIn big b) : GoodIn big (a ++ b) := fun w h => (List.mem_append.mp h).elim (ha w) (hb w)
theorem goodIn_ca {big a b : List Cond} {c : Cond} (ha : GoodIn big (c :: a)) (hb : GoodIn big b) : GoodIn big (c :: (a ++ b)) := fun w h => (List.mem_cons.mp h).elim (fun e => ha w (List.mem_cons.mpr (Or.inl e))) (fun h => (List.mem_append.mp h).elim (fun h => ha w (List.mem_cons.mpr (Or.inr h))) (hb w))
theorem goodIn_sub {big ws : List Cond} (hm : ∀ w ∈ ws, w ∈ big) (h : ws.all goodWord = true) : GoodIn big ws := fun w hw => ⟨hm w hw, good_of_word (List.all_eq_true.mp h w hw)⟩
/-! ===== END ===== -/

/-! ===== BEGIN printed: names, fields, word lists, decode rows ===== -/
def RX0 : String := "OtherNames$Houses"
def TX0 : u_T := fun k => match k with
  | _ => ("OtherNames$Houses", "rows", "LOtherNames$Rows;", true)
def tyX0 : Nat → FieldType := fun k => match k with
  | _ => .object "OtherNames$Rows"
abbrev wsX00 : List Cond := u_ws RX0 TX0 1
theorem nmX0 : ∀ a, a < 1 → ∀ b, b < 1 → a ≠ b → (TX0 a).2.1 ≠ (TX0 b).2.1 := by decide +kernel
theorem tyX0_ok : ∀ k, k < 1 → parseFieldDescriptor (TX0 k).2.2.1 = some (tyX0 k) := by decide +kernel
abbrev cX0_init : ByteArray := prog_2_method_1_code
def yX0_init : MethodName := ⟨RX0, "<init>", "()V"⟩
abbrev cX0_size : ByteArray := prog_2_method_2_code
def yX0_size : MethodName := ⟨RX0, "size", "()I"⟩
abbrev cX0_isThere : ByteArray := prog_2_method_3_code
def yX0_isThere : MethodName := ⟨RX0, "isThere", "(I)Z"⟩
abbrev cX0_add : ByteArray := prog_2_method_4_code
def yX0_add : MethodName := ⟨RX0, "add", "(IIIII)I"⟩
abbrev cX0_isSpanned : ByteArray := prog_2_method_5_code
def yX0_isSpanned : MethodName := ⟨RX0, "isSpanned", "(I)Z"⟩
abbrev cX0_seedOf : ByteArray := prog_2_method_6_code
def yX0_seedOf : MethodName := ⟨RX0, "seedOf", "(I)I"⟩
abbrev cX0_leastOf : ByteArray := prog_2_method_7_code
def yX0_leastOf : MethodName := ⟨RX0, "leastOf", "(I)I"⟩
abbrev cX0_reasonCounts : ByteArray := prog_2_method_8_code
def yX0_reasonCounts : MethodName := ⟨RX0, "reasonCounts", "(II)Z"⟩
abbrev cX0_isLost : ByteArray := prog_2_method_9_code
def yX0_isLost : MethodName := ⟨RX0, "isLost", "(I)Z"⟩
abbrev cX0_setLost : ByteArray := prog_2_method_10_code
def yX0_setLost : MethodName := ⟨RX0, "setLost", "(IZ)V"⟩
abbrev cX0_nameNumber : ByteArray := prog_2_method_11_code
def yX0_nameNumber : MethodName := ⟨RX0, "nameNumber", "(II)I"⟩
abbrev cX0_spanNumber : ByteArray := prog_2_method_12_code
def yX0_spanNumber : MethodName := ⟨RX0, "spanNumber", "(III)I"⟩
def RX1 : String := "OtherNames$Names"
def TX1 : u_T := fun k => match k with
  | 0 => ("OtherNames$Names", "rows", "LOtherNames$Rows;", true)
  | _ => ("OtherNames$Names", "people", "LOtherNames$People;", true)
def tyX1 : Nat → FieldType := fun k => match k with
  | 0 => .object "OtherNames$Rows"
  | _ => .object "OtherNames$People"
abbrev wsX10 : List Cond := u_ws RX1 TX1 2
theorem nmX1 : ∀ a, a < 2 → ∀ b, b < 2 → a ≠ b → (TX1 a).2.1 ≠ (TX1 b).2.1 := by decide +kernel
theorem tyX1_ok : ∀ k, k < 2 → parseFieldDescriptor (TX1 k).2.2.1 = some (tyX1 k) := by decide +kernel
abbrev cX1_init : ByteArray := prog_3_method_1_code
def yX1_init : MethodName := ⟨RX1, "<init>", "(LOtherNames$People;)V"⟩
abbrev cX1_size : ByteArray := prog_3_method_2_code
def yX1_size : MethodName := ⟨RX1, "size", "()I"⟩
abbrev cX1_cell : ByteArray := prog_3_method_3_code
def yX1_cell : MethodName := ⟨RX1, "cell", "(II)I"⟩
abbrev cX1_nameAt : ByteArray := prog_3_method_4_code
def yX1_nameAt : MethodName := ⟨RX1, "nameAt", "(I)I"⟩
abbrev cX1_ownerAt : ByteArray := prog_3_method_5_code
def yX1_ownerAt : MethodName := ⟨RX1, "ownerAt", "(I)I"⟩
abbrev cX1_spanNumberAt : ByteArray := prog_3_method_6_code
def yX1_spanNumberAt : MethodName := ⟨RX1, "spanNumberAt", "(I)I"⟩
abbrev cX1_add : ByteArray := prog_3_method_7_code
def yX1_add : MethodName := ⟨RX1, "add", "(IIIII)I"⟩
abbrev cX1_find : ByteArray := prog_3_method_8_code
def yX1_find : MethodName := ⟨RX1, "find", "(II)I"⟩
abbrev cX1_firstFor : ByteArray := prog_3_method_9_code
def yX1_firstFor : MethodName := ⟨RX1, "firstFor", "(III)I"⟩
abbrev cX1_leadsTo : ByteArray := prog_3_method_10_code
def yX1_leadsTo : MethodName := ⟨RX1, "leadsTo", "(I)I"⟩
abbrev cX1_countGivenBy : ByteArray := prog_3_method_11_code
def yX1_countGivenBy : MethodName := ⟨RX1, "countGivenBy", "(I)I"⟩
abbrev cX1_countOwnedBy : ByteArray := prog_3_method_12_code
def yX1_countOwnedBy : MethodName := ⟨RX1, "countOwnedBy", "(I)I"⟩
abbrev cX1_knownTo : ByteArray := prog_3_method_13_code
def yX1_knownTo : MethodName := ⟨RX1, "knownTo", "(I)I"⟩
abbrev cX1_countWith : ByteArray := prog_3_method_14_code
def yX1_countWith : MethodName := ⟨RX1, "countWith", "(II)I"⟩
def RX2 : String := "OtherNames$People"
def TX2 : u_T := fun k => match k with
  | _ => ("OtherNames$People", "rows", "LOtherNames$Rows;", true)
def tyX2 : Nat → FieldType := fun k => match k with
  | _ => .object "OtherNames$Rows"
abbrev wsX20 : List Cond := u_ws RX2 TX2 1
theorem nmX2 : ∀ a, a < 1 → ∀ b, b < 1 → a ≠ b → (TX2 a).2.1 ≠ (TX2 b).2.1 := by decide +kernel
theorem tyX2_ok : ∀ k, k < 1 → parseFieldDescriptor (TX2 k).2.2.1 = some (tyX2 k) := by decide +kernel
abbrev cX2_init : ByteArray := prog_4_method_1_code
def yX2_init : MethodName := ⟨RX2, "<init>", "()V"⟩
abbrev cX2_isMark : ByteArray := prog_4_method_2_code
def yX2_isMark : MethodName := ⟨RX2, "isMark", "(I)Z"⟩
abbrev cX2_isMarkNumber : ByteArray := prog_4_method_3_code
def yX2_isMarkNumber : MethodName := ⟨RX2, "isMarkNumber", "(I)Z"⟩
abbrev cX2_size : ByteArray := prog_4_method_4_code
def yX2_size : MethodName := ⟨RX2, "size", "()I"⟩
abbrev cX2_isThere : ByteArray := prog_4_method_5_code
def yX2_isThere : MethodName := ⟨RX2, "isThere", "(I)Z"⟩
abbrev cX2_add : ByteArray := prog_4_method_6_code
def yX2_add : MethodName := ⟨RX2, "add", "(IIII)I"⟩
abbrev cX2_setMark : ByteArray := prog_4_method_7_code
def yX2_setMark : MethodName := ⟨RX2, "setMark", "(III)Z"⟩
abbrev cX2_markOf : ByteArray := prog_4_method_8_code
def yX2_markOf : MethodName := ⟨RX2, "markOf", "(II)I"⟩
abbrev cX2_holderOf : ByteArray := prog_4_method_9_code
def yX2_holderOf : MethodName := ⟨RX2, "holderOf", "(I)I"⟩
abbrev cX2_headOf : ByteArray := prog_4_method_10_code
def yX2_headOf : MethodName := ⟨RX2, "headOf", "(I)I"⟩
abbrev cX2_isStruckOut : ByteArray := prog_4_method_11_code
def yX2_isStruckOut : MethodName := ⟨RX2, "isStruckOut", "(I)Z"⟩
abbrev cX2_join : ByteArray := prog_4_method_12_code
def yX2_join : MethodName := ⟨RX2, "join", "(II)Z"⟩
abbrev cX2_leave : ByteArray := prog_4_method_13_code
def yX2_leave : MethodName := ⟨RX2, "leave", "(I)Z"⟩
abbrev cX2_strikeOut : ByteArray := prog_4_method_14_code
def yX2_strikeOut : MethodName := ⟨RX2, "strikeOut", "(I)Z"⟩
abbrev cX2_groupSize : ByteArray := prog_4_method_15_code
def yX2_groupSize : MethodName := ⟨RX2, "groupSize", "(III)I"⟩
abbrev cX2_countHaving : ByteArray := prog_4_method_16_code
def yX2_countHaving : MethodName := ⟨RX2, "countHaving", "(III)I"⟩
abbrev cX2_isHead : ByteArray := prog_4_method_17_code
def yX2_isHead : MethodName := ⟨RX2, "isHead", "(I)Z"⟩
abbrev cX2_strikeOutAllUnder : ByteArray := prog_4_method_18_code
def yX2_strikeOutAllUnder : MethodName := ⟨RX2, "strikeOutAllUnder", "(I)V"⟩
abbrev cX2_areAlike : ByteArray := prog_4_method_19_code
def yX2_areAlike : MethodName := ⟨RX2, "areAlike", "(III)Z"⟩
abbrev cX2_isAmong : ByteArray := prog_4_method_20_code
def yX2_isAmong : MethodName := ⟨RX2, "isAmong", "(II)Z"⟩
def RX3 : String := "OtherNames$Rows"
def TX3 : u_T := fun k => match k with
  | 0 => ("OtherNames$Rows", "most", "I", true)
  | 1 => ("OtherNames$Rows", "width", "I", true)
  | 2 => ("OtherNames$Rows", "cells", "[I", true)
  | _ => ("OtherNames$Rows", "size", "I", false)
def tyX3 : Nat → FieldType := fun k => match k with
  | 0 => .int
  | 1 => .int
  | 2 => .array .int
  | _ => .int
abbrev wsX30 : List Cond := u_ws RX3 TX3 4
theorem nmX3 : ∀ a, a < 4 → ∀ b, b < 4 → a ≠ b → (TX3 a).2.1 ≠ (TX3 b).2.1 := by decide +kernel
theorem tyX3_ok : ∀ k, k < 4 → parseFieldDescriptor (TX3 k).2.2.1 = some (tyX3 k) := by decide +kernel
abbrev cX3_init : ByteArray := prog_5_method_1_code
def yX3_init : MethodName := ⟨RX3, "<init>", "(II)V"⟩
abbrev cX3_size : ByteArray := prog_5_method_2_code
def yX3_size : MethodName := ⟨RX3, "size", "()I"⟩
abbrev cX3_isFull : ByteArray := prog_5_method_3_code
def yX3_isFull : MethodName := ⟨RX3, "isFull", "()Z"⟩
abbrev cX3_isThere : ByteArray := prog_5_method_4_code
def yX3_isThere : MethodName := ⟨RX3, "isThere", "(I)Z"⟩
abbrev cX3_addRow : ByteArray := prog_5_method_5_code
def yX3_addRow : MethodName := ⟨RX3, "addRow", "()I"⟩
abbrev cX3_at : ByteArray := prog_5_method_6_code
def yX3_at : MethodName := ⟨RX3, "at", "(II)I"⟩
abbrev cX3_put : ByteArray := prog_5_method_7_code
def yX3_put : MethodName := ⟨RX3, "put", "(III)V"⟩
abbrev cX3_hasCell : ByteArray := prog_5_method_8_code
def yX3_hasCell : MethodName := ⟨RX3, "hasCell", "(II)Z"⟩
def RX4 : String := "OtherNames"
def TX4 : u_T := fun k => match k with
  | 0 => ("OtherNames", "people", "LOtherNames$People;", true)
  | 1 => ("OtherNames", "houses", "LOtherNames$Houses;", true)
  | 2 => ("OtherNames", "names", "LOtherNames$Names;", true)
  | 3 => ("OtherNames", "bridges", "LOtherNames$Rows;", true)
  | 4 => ("OtherNames", "entries", "LOtherNames$Rows;", true)
  | _ => ("OtherNames", "today", "I", false)
def tyX4 : Nat → FieldType := fun k => match k with
  | 0 => .object "OtherNames$People"
  | 1 => .object "OtherNames$Houses"
  | 2 => .object "OtherNames$Names"
  | 3 => .object "OtherNames$Rows"
  | 4 => .object "OtherNames$Rows"
  | _ => .int
abbrev wsX40 : List Cond := u_ws RX4 TX4 6
theorem nmX4 : ∀ a, a < 6 → ∀ b, b < 6 → a ≠ b → (TX4 a).2.1 ≠ (TX4 b).2.1 := by decide +kernel
theorem tyX4_ok : ∀ k, k < 6 → parseFieldDescriptor (TX4 k).2.2.1 = some (tyX4 k) := by decide +kernel
abbrev cX4_init : ByteArray := prog_1_method_1_code
def yX4_init : MethodName := ⟨RX4, "<init>", "()V"⟩
abbrev cX4_person : ByteArray := prog_1_method_2_code
def yX4_person : MethodName := ⟨RX4, "person", "(IIII)I"⟩
abbrev cX4_mark : ByteArray := prog_1_method_3_code
def yX4_mark : MethodName := ⟨RX4, "mark", "(III)Z"⟩
abbrev cX4_house : ByteArray := prog_1_method_4_code
def yX4_house : MethodName := ⟨RX4, "house", "(IIIII)I"⟩
abbrev cX4_day : ByteArray := prog_1_method_5_code
def yX4_day : MethodName := ⟨RX4, "day", "(I)Z"⟩
abbrev cX4_one : ByteArray := prog_1_method_6_code
def yX4_one : MethodName := ⟨RX4, "one", "(II)Z"⟩
abbrev cX4_part : ByteArray := prog_1_method_7_code
def yX4_part : MethodName := ⟨RX4, "part", "(I)Z"⟩
abbrev cX4_strike : ByteArray := prog_1_method_8_code
def yX4_strike : MethodName := ⟨RX4, "strike", "(I)Z"⟩
abbrev cX4_name : ByteArray := prog_1_method_9_code
def yX4_name : MethodName := ⟨RX4, "name", "(II)I"⟩
abbrev cX4_leads : ByteArray := prog_1_method_10_code
def yX4_leads : MethodName := ⟨RX4, "leads", "(II)I"⟩
abbrev cX4_bridge : ByteArray := prog_1_method_11_code
def yX4_bridge : MethodName := ⟨RX4, "bridge", "(IIII)Z"⟩
abbrev cX4_holds : ByteArray := prog_1_method_12_code
def yX4_holds : MethodName := ⟨RX4, "holds", "(III)I"⟩
abbrev cX4_cross : ByteArray := prog_1_method_13_code
def yX4_cross : MethodName := ⟨RX4, "cross", "(IIII)I"⟩
abbrev cX4_back : ByteArray := prog_1_method_14_code
def yX4_back : MethodName := ⟨RX4, "back", "(IIIII)I"⟩
abbrev cX4_lose : ByteArray := prog_1_method_15_code
def yX4_lose : MethodName := ⟨RX4, "lose", "(I)Z"⟩
abbrev cX4_anew : ByteArray := prog_1_method_16_code
def yX4_anew : MethodName := ⟨RX4, "anew", "(II)Z"⟩
abbrev cX4_joins : ByteArray := prog_1_method_17_code
def yX4_joins : MethodName := ⟨RX4, "joins", "(III)I"⟩
abbrev cX4_least : ByteArray := prog_1_method_18_code
def yX4_least : MethodName := ⟨RX4, "least", "(II)I"⟩
abbrev cX4_count : ByteArray := prog_1_method_19_code
def yX4_count : MethodName := ⟨RX4, "count", "(III)I"⟩
abbrev cX4_record : ByteArray := prog_1_method_20_code
def yX4_record : MethodName := ⟨RX4, "record", "(II)I"⟩
abbrev cX4_given : ByteArray := prog_1_method_21_code
def yX4_given : MethodName := ⟨RX4, "given", "(II)I"⟩
abbrev cX4_look : ByteArray := prog_1_method_22_code
def yX4_look : MethodName := ⟨RX4, "look", "(II)I"⟩
abbrev cX4_tell : ByteArray := prog_1_method_23_code
def yX4_tell : MethodName := ⟨RX4, "tell", "(I)I"⟩
abbrev cX4_tellOfHouse : ByteArray := prog_1_method_24_code
def yX4_tellOfHouse : MethodName := ⟨RX4, "tellOfHouse", "(II)I"⟩
abbrev cX4_nameIn : ByteArray := prog_1_method_25_code
def yX4_nameIn : MethodName := ⟨RX4, "nameIn", "(II)I"⟩
abbrev cX4_crossWith : ByteArray := prog_1_method_26_code
def yX4_crossWith : MethodName := ⟨RX4, "crossWith", "(III)I"⟩
abbrev cX4_headBehind : ByteArray := prog_1_method_27_code
def yX4_headBehind : MethodName := ⟨RX4, "headBehind", "(II)I"⟩
abbrev cX4_enter : ByteArray := prog_1_method_28_code
def yX4_enter : MethodName := ⟨RX4, "enter", "(IIIII)V"⟩
abbrev cX4_isBridged : ByteArray := prog_1_method_29_code
def yX4_isBridged : MethodName := ⟨RX4, "isBridged", "(III)Z"⟩
abbrev cX4_isTooSmall : ByteArray := prog_1_method_30_code
def yX4_isTooSmall : MethodName := ⟨RX4, "isTooSmall", "(II)Z"⟩
abbrev cX4_areTwoHouses : ByteArray := prog_1_method_31_code
def yX4_areTwoHouses : MethodName := ⟨RX4, "areTwoHouses", "(II)Z"⟩
abbrev cX4_isDay : ByteArray := prog_1_method_32_code
def yX4_isDay : MethodName := ⟨RX4, "isDay", "(I)Z"⟩
abbrev cX4_isHand : ByteArray := prog_1_method_33_code
def yX4_isHand : MethodName := ⟨RX4, "isHand", "(I)Z"⟩
abbrev cX4_isReason : ByteArray := prog_1_method_34_code
def yX4_isReason : MethodName := ⟨RX4, "isReason", "(I)Z"⟩
abbrev cX4_areMarks : ByteArray := prog_1_method_35_code
def yX4_areMarks : MethodName := ⟨RX4, "areMarks", "(I)Z"⟩
abbrev cX4_oneIf : ByteArray := prog_1_method_36_code
def yX4_oneIf : MethodName := ⟨RX4, "oneIf", "(Z)I"⟩
def RX5 : String := "OtherNamesModel"
def TX5 : u_T := fun k => match k with
  | 0 => ("OtherNamesModel", "people", "I", false)
  | 1 => ("OtherNamesModel", "houses", "I", false)
  | 2 => ("OtherNamesModel", "now", "I", false)
  | 3 => ("OtherNamesModel", "names", "I", false)
  | 4 => ("OtherNamesModel", "bridges", "I", false)
  | 5 => ("OtherNamesModel", "entries", "I", false)
  | 6 => ("OtherNamesModel", "marks", "[I", true)
  | 7 => ("OtherNamesModel", "within", "[I", true)
  | 8 => ("OtherNamesModel", "isStruck", "[Z", true)
  | 9 => ("OtherNamesModel", "kind", "[I", true)
  | 10 => ("OtherNamesModel", "span", "[I", true)
  | 11 => ("OtherNamesModel", "seed", "[I", true)
  | 12 => ("OtherNamesModel", "reasons", "[I", true)
  | 13 => ("OtherNamesModel", "leastOf", "[I", true)
  | 14 => ("OtherNamesModel", "many", "[I", true)
  | 15 => ("OtherNamesModel", "isLost", "[Z", true)
  | 16 => ("OtherNamesModel", "nameHouse", "[I", true)
  | 17 => ("OtherNamesModel", "nameOf", "[I", true)
  | 18 => ("OtherNamesModel", "owner", "[I", true)
  | 19 => ("OtherNamesModel", "nameDay", "[I", true)
  | 20 => ("OtherNamesModel", "nameSpan", "[I", true)
  | 21 => ("OtherNamesModel", "bridgeFrom", "[I", true)
  | 22 => ("OtherNamesModel", "bridgeTo", "[I", true)
  | 23 => ("OtherNamesModel", "bridgeFirst", "[I", true)
  | 24 => ("OtherNamesModel", "bridgeLast", "[I", true)
  | _ => ("OtherNamesModel", "entry", "[I", true)
def tyX5 : Nat → FieldType := fun k => match k with
  | 0 => .int
  | 1 => .int
  | 2 => .int
  | 3 => .int
  | 4 => .int
  | 5 => .int
  | 6 => .array .int
  | 7 => .array .int
  | 8 => .array .boolean
  | 9 => .array .int
  | 10 => .array .int
  | 11 => .array .int
  | 12 => .array .int
  | 13 => .array .int
  | 14 => .array .int
  | 15 => .array .boolean
  | 16 => .array .int
  | 17 => .array .int
  | 18 => .array .int
  | 19 => .array .int
  | 20 => .array .int
  | 21 => .array .int
  | 22 => .array .int
  | 23 => .array .int
  | 24 => .array .int
  | _ => .array .int
abbrev wsX50 : List Cond := u_ws RX5 TX5 26
theorem nmX5 : ∀ a, a < 26 → ∀ b, b < 26 → a ≠ b → (TX5 a).2.1 ≠ (TX5 b).2.1 := by decide +kernel
theorem tyX5_ok : ∀ k, k < 26 → parseFieldDescriptor (TX5 k).2.2.1 = some (tyX5 k) := by decide +kernel
abbrev cX5_init : ByteArray := prog_7_method_1_code
def yX5_init : MethodName := ⟨RX5, "<init>", "()V"⟩
abbrev cX5_in : ByteArray := prog_7_method_2_code
def yX5_in : MethodName := ⟨RX5, "in", "(III)Z"⟩
abbrev cX5_isPerson : ByteArray := prog_7_method_3_code
def yX5_isPerson : MethodName := ⟨RX5, "isPerson", "(I)Z"⟩
abbrev cX5_isMark : ByteArray := prog_7_method_4_code
def yX5_isMark : MethodName := ⟨RX5, "isMark", "(I)Z"⟩
abbrev cX5_person : ByteArray := prog_7_method_5_code
def yX5_person : MethodName := ⟨RX5, "person", "(IIII)I"⟩
abbrev cX5_mark : ByteArray := prog_7_method_6_code
def yX5_mark : MethodName := ⟨RX5, "mark", "(III)Z"⟩
abbrev cX5_head : ByteArray := prog_7_method_7_code
def yX5_head : MethodName := ⟨RX5, "head", "(I)I"⟩
abbrev cX5_strikes : ByteArray := prog_7_method_8_code
def yX5_strikes : MethodName := ⟨RX5, "strikes", "(I)V"⟩
abbrev cX5_one : ByteArray := prog_7_method_9_code
def yX5_one : MethodName := ⟨RX5, "one", "(II)Z"⟩
abbrev cX5_part : ByteArray := prog_7_method_10_code
def yX5_part : MethodName := ⟨RX5, "part", "(I)Z"⟩
abbrev cX5_strike : ByteArray := prog_7_method_11_code
def yX5_strike : MethodName := ⟨RX5, "strike", "(I)Z"⟩
abbrev cX5_day : ByteArray := prog_7_method_12_code
def yX5_day : MethodName := ⟨RX5, "day", "(I)Z"⟩
abbrev cX5_isHouse : ByteArray := prog_7_method_13_code
def yX5_isHouse : MethodName := ⟨RX5, "isHouse", "(I)Z"⟩
abbrev cX5_house : ByteArray := prog_7_method_14_code
def yX5_house : MethodName := ⟨RX5, "house", "(IIIII)I"⟩
abbrev cX5_spanNow : ByteArray := prog_7_method_15_code
def yX5_spanNow : MethodName := ⟨RX5, "spanNow", "(I)I"⟩
abbrev cX5_firstOf : ByteArray := prog_7_method_16_code
def yX5_firstOf : MethodName := ⟨RX5, "firstOf", "(III)I"⟩
abbrev cX5_find : ByteArray := prog_7_method_17_code
def yX5_find : MethodName := ⟨RX5, "find", "(II)I"⟩
abbrev cX5_namesOf : ByteArray := prog_7_method_18_code
def yX5_namesOf : MethodName := ⟨RX5, "namesOf", "(II)I"⟩
abbrev cX5_name : ByteArray := prog_7_method_19_code
def yX5_name : MethodName := ⟨RX5, "name", "(II)I"⟩
abbrev cX5_leads : ByteArray := prog_7_method_20_code
def yX5_leads : MethodName := ⟨RX5, "leads", "(II)I"⟩
abbrev cX5_bridge : ByteArray := prog_7_method_21_code
def yX5_bridge : MethodName := ⟨RX5, "bridge", "(IIII)Z"⟩
abbrev cX5_isHeld : ByteArray := prog_7_method_22_code
def yX5_isHeld : MethodName := ⟨RX5, "isHeld", "(III)Z"⟩
abbrev cX5_holds : ByteArray := prog_7_method_23_code
def yX5_holds : MethodName := ⟨RX5, "holds", "(III)I"⟩
abbrev cX5_writes : ByteArray := prog_7_method_24_code
def yX5_writes : MethodName := ⟨RX5, "writes", "(IIIII)V"⟩
abbrev cX5_crossed : ByteArray := prog_7_method_25_code
def yX5_crossed : MethodName := ⟨RX5, "crossed", "(III)I"⟩
abbrev cX5_cross : ByteArray := prog_7_method_26_code
def yX5_cross : MethodName := ⟨RX5, "cross", "(IIII)I"⟩
abbrev cX5_back : ByteArray := prog_7_method_27_code
def yX5_back : MethodName := ⟨RX5, "back", "(IIIII)I"⟩
abbrev cX5_lose : ByteArray := prog_7_method_28_code
def yX5_lose : MethodName := ⟨RX5, "lose", "(I)Z"⟩
abbrev cX5_anew : ByteArray := prog_7_method_29_code
def yX5_anew : MethodName := ⟨RX5, "anew", "(II)Z"⟩
abbrev cX5_record : ByteArray := prog_7_method_30_code
def yX5_record : MethodName := ⟨RX5, "record", "(II)I"⟩
abbrev cX5_knows : ByteArray := prog_7_method_31_code
def yX5_knows : MethodName := ⟨RX5, "knows", "(II)Z"⟩
abbrev cX5_areAlike : ByteArray := prog_7_method_32_code
def yX5_areAlike : MethodName := ⟨RX5, "areAlike", "(III)Z"⟩
abbrev cX5_group : ByteArray := prog_7_method_33_code
def yX5_group : MethodName := ⟨RX5, "group", "(III)I"⟩
abbrev cX5_joins : ByteArray := prog_7_method_34_code
def yX5_joins : MethodName := ⟨RX5, "joins", "(III)I"⟩
abbrev cX5_least : ByteArray := prog_7_method_35_code
def yX5_least : MethodName := ⟨RX5, "least", "(II)I"⟩
abbrev cX5_count : ByteArray := prog_7_method_36_code
def yX5_count : MethodName := ⟨RX5, "count", "(III)I"⟩
abbrev cX5_given : ByteArray := prog_7_method_37_code
def yX5_given : MethodName := ⟨RX5, "given", "(II)I"⟩
abbrev cX5_look : ByteArray := prog_7_method_38_code
def yX5_look : MethodName := ⟨RX5, "look", "(II)I"⟩
abbrev cX5_known : ByteArray := prog_7_method_39_code
def yX5_known : MethodName := ⟨RX5, "known", "(I)I"⟩
abbrev cX5_tell : ByteArray := prog_7_method_40_code
def yX5_tell : MethodName := ⟨RX5, "tell", "(I)I"⟩
def RJ6 : String := "java/lang/Integer"
def TJ6 : u_T := fun k => match k with
  | _ => ("", "", "", false)
def tyJ6 : Nat → FieldType := fun k => match k with
  | _ => .int
abbrev wsJ60 : List Cond := u_ws RJ6 TJ6 0
theorem nmJ6 : ∀ a, a < 0 → ∀ b, b < 0 → a ≠ b → (TJ6 a).2.1 ≠ (TJ6 b).2.1 := by decide +kernel
theorem tyJ6_ok : ∀ k, k < 0 → parseFieldDescriptor (TJ6 k).2.2.1 = some (tyJ6 k) := by decide +kernel
abbrev cJ6_bitCount_0f7a4 : ByteArray := prog_8_method_49_code
def yJ6_bitCount_0f7a4 : MethodName := ⟨RJ6, "bitCount", "(I)I"⟩
def RJ9 : String := "java/lang/Math"
def TJ9 : u_T := fun k => match k with
  | _ => ("", "", "", false)
def tyJ9 : Nat → FieldType := fun k => match k with
  | _ => .int
abbrev wsJ90 : List Cond := u_ws RJ9 TJ9 0
theorem nmJ9 : ∀ a, a < 0 → ∀ b, b < 0 → a ≠ b → (TJ9 a).2.1 ≠ (TJ9 b).2.1 := by decide +kernel
theorem tyJ9_ok : ∀ k, k < 0 → parseFieldDescriptor (TJ9 k).2.2.1 = some (tyJ9 k) := by decide +kernel
abbrev cJ9_max_7cf53 : ByteArray := prog_9_method_65_code
def yJ9_max_7cf53 : MethodName := ⟨RJ9, "max", "(II)I"⟩
def RL : String := "OtherNamesLaw"
abbrev cL_law : ByteArray := code
def yL_law : MethodName := ⟨RL, "law", "([I)Z"⟩
def wsX3_init : List Cond := .code yX3_init cX3_init 3 none :: ([.methodLink RX3 3 objectInit, .instanceMethod objectInit, .code objectInit ⟨#[0xb1]⟩ 1 none, .methodLink RX3 9 Lib.Math.max.name, .static Lib.Math.max.name, .initialized "java/lang/Math", .code Lib.Math.max.name Lib.Math.max.code 2 (some .int), .fieldLink RX3 15 "OtherNames$Rows" "most" "I", .fieldLink RX3 21 "OtherNames$Rows" "width" "I", .arrayClass .int, .fieldLink RX3 24 "OtherNames$Rows" "cells" "[I", .fieldLink RX3 28 "OtherNames$Rows" "size" "I"] ++ wsX30)
def wsX0_init : List Cond := .code yX0_init cX0_init 1 none :: ([.methodLink RX0 3 objectInit, .instanceMethod objectInit, .code objectInit ⟨#[0xb1]⟩ 1 none, .classLink RX0 9 RX3, .instantiable RX3 4, .initialized RX3, .fieldLink RX0 16 "OtherNames$Houses" "rows" "LOtherNames$Rows;", .methodLink RX0 13 yX3_init, .instanceMethod yX3_init, .code yX3_init cX3_init 3 none, .methodLink RX3 3 objectInit, .methodLink RX3 9 Lib.Math.max.name, .static Lib.Math.max.name, .initialized "java/lang/Math", .code Lib.Math.max.name Lib.Math.max.code 2 (some .int), .fieldLink RX3 15 "OtherNames$Rows" "most" "I", .fieldLink RX3 21 "OtherNames$Rows" "width" "I", .arrayClass .int, .fieldLink RX3 24 "OtherNames$Rows" "cells" "[I", .fieldLink RX3 28 "OtherNames$Rows" "size" "I"] ++ wsX30 ++ wsX00)
def wsX3_size : List Cond := .code yX3_size cX3_size 1 (some .int) :: ([.fieldLink RX3 28 "OtherNames$Rows" "size" "I"] ++ wsX30)
def wsX0_size : List Cond := .code yX0_size cX0_size 1 (some .int) :: ([.fieldLink RX0 16 "OtherNames$Houses" "rows" "LOtherNames$Rows;", .methodLink RX0 20 yX3_size, .instanceMethod yX3_size, .selects RX3 yX3_size yX3_size, .initialized RX3, .code yX3_size cX3_size 1 (some .int), .fieldLink RX3 28 "OtherNames$Rows" "size" "I"] ++ wsX00 ++ wsX30)
def wsX3_isThere : List Cond := .code yX3_isThere cX3_isThere 2 (some .boolean) :: ([.fieldLink RX3 28 "OtherNames$Rows" "size" "I"] ++ wsX30)
def wsX0_isThere : List Cond := .code yX0_isThere cX0_isThere 2 (some .boolean) :: ([.fieldLink RX0 16 "OtherNames$Houses" "rows" "LOtherNames$Rows;", .methodLink RX0 24 yX3_isThere, .instanceMethod yX3_isThere, .selects RX3 yX3_isThere yX3_isThere, .initialized RX3, .code yX3_isThere cX3_isThere 2 (some .boolean), .fieldLink RX3 28 "OtherNames$Rows" "size" "I"] ++ wsX00 ++ wsX30)
def wsX3_isFull : List Cond := .code yX3_isFull cX3_isFull 1 (some .boolean) :: ([.fieldLink RX3 28 "OtherNames$Rows" "size" "I", .fieldLink RX3 15 "OtherNames$Rows" "most" "I"] ++ wsX30)
def wsX3_addRow : List Cond := .code yX3_addRow cX3_addRow 1 (some .int) :: ([.fieldLink RX3 28 "OtherNames$Rows" "size" "I", .methodLink RX3 31 yX3_isFull, .instanceMethod yX3_isFull, .selects RX3 yX3_isFull yX3_isFull, .initialized RX3, .code yX3_isFull cX3_isFull 1 (some .boolean), .fieldLink RX3 15 "OtherNames$Rows" "most" "I"] ++ wsX30)
def wsX3_hasCell : List Cond := .code yX3_hasCell cX3_hasCell 3 (some .boolean) :: ([.fieldLink RX3 28 "OtherNames$Rows" "size" "I", .fieldLink RX3 21 "OtherNames$Rows" "width" "I"] ++ wsX30)
def wsX3_put : List Cond := .code yX3_put cX3_put 4 none :: ([.fieldLink RX3 24 "OtherNames$Rows" "cells" "[I", .fieldLink RX3 21 "OtherNames$Rows" "width" "I", .methodLink RX3 35 yX3_hasCell, .instanceMethod yX3_hasCell, .selects RX3 yX3_hasCell yX3_hasCell, .initialized RX3, .code yX3_hasCell cX3_hasCell 3 (some .boolean), .fieldLink RX3 28 "OtherNames$Rows" "size" "I"] ++ wsX30)
def wsX0_add : List Cond := .code yX0_add cX0_add 7 (some .int) :: ([.fieldLink RX0 16 "OtherNames$Houses" "rows" "LOtherNames$Rows;", .methodLink RX0 28 yX3_addRow, .instanceMethod yX3_addRow, .selects RX3 yX3_addRow yX3_addRow, .initialized RX3, .code yX3_addRow cX3_addRow 1 (some .int), .fieldLink RX3 28 "OtherNames$Rows" "size" "I", .methodLink RX3 31 yX3_isFull, .instanceMethod yX3_isFull, .selects RX3 yX3_isFull yX3_isFull, .code yX3_isFull cX3_isFull 1 (some .boolean), .fieldLink RX3 15 "OtherNames$Rows" "most" "I", .methodLink RX0 31 yX3_put, .instanceMethod yX3_put, .selects RX3 yX3_put yX3_put, .code yX3_put cX3_put 4 none, .fieldLink RX3 24 "OtherNames$Rows" "cells" "[I", .fieldLink RX3 21 "OtherNames$Rows" "width" "I", .methodLink RX3 35 yX3_hasCell, .instanceMethod yX3_hasCell, .selects RX3 yX3_hasCell yX3_hasCell, .code yX3_hasCell cX3_hasCell 3 (some .boolean)] ++ wsX00 ++ wsX30)
def wsX3_at : List Cond := .code yX3_at cX3_at 3 (some .int) :: ([.fieldLink RX3 24 "OtherNames$Rows" "cells" "[I", .fieldLink RX3 21 "OtherNames$Rows" "width" "I", .methodLink RX3 35 yX3_hasCell, .instanceMethod yX3_hasCell, .selects RX3 yX3_hasCell yX3_hasCell, .initialized RX3, .code yX3_hasCell cX3_hasCell 3 (some .boolean), .fieldLink RX3 28 "OtherNames$Rows" "size" "I"] ++ wsX30)
def wsX0_isSpanned : List Cond := .code yX0_isSpanned cX0_isSpanned 2 (some .boolean) :: ([.fieldLink RX0 16 "OtherNames$Houses" "rows" "LOtherNames$Rows;", .methodLink RX0 35 yX3_at, .instanceMethod yX3_at, .selects RX3 yX3_at yX3_at, .initialized RX3, .code yX3_at cX3_at 3 (some .int), .fieldLink RX3 24 "OtherNames$Rows" "cells" "[I", .fieldLink RX3 21 "OtherNames$Rows" "width" "I", .methodLink RX3 35 yX3_hasCell, .instanceMethod yX3_hasCell, .selects RX3 yX3_hasCell yX3_hasCell, .code yX3_hasCell cX3_hasCell 3 (some .boolean), .fieldLink RX3 28 "OtherNames$Rows" "size" "I"] ++ wsX00 ++ wsX30)
def wsX0_seedOf : List Cond := .code yX0_seedOf cX0_seedOf 2 (some .int) :: ([.fieldLink RX0 16 "OtherNames$Houses" "rows" "LOtherNames$Rows;", .methodLink RX0 35 yX3_at, .instanceMethod yX3_at, .selects RX3 yX3_at yX3_at, .initialized RX3, .code yX3_at cX3_at 3 (some .int), .fieldLink RX3 24 "OtherNames$Rows" "cells" "[I", .fieldLink RX3 21 "OtherNames$Rows" "width" "I", .methodLink RX3 35 yX3_hasCell, .instanceMethod yX3_hasCell, .selects RX3 yX3_hasCell yX3_hasCell, .code yX3_hasCell cX3_hasCell 3 (some .boolean), .fieldLink RX3 28 "OtherNames$Rows" "size" "I"] ++ wsX00 ++ wsX30)
def wsX0_leastOf : List Cond := .code yX0_leastOf cX0_leastOf 2 (some .int) :: ([.fieldLink RX0 16 "OtherNames$Houses" "rows" "LOtherNames$Rows;", .methodLink RX0 35 yX3_at, .instanceMethod yX3_at, .selects RX3 yX3_at yX3_at, .initialized RX3, .code yX3_at cX3_at 3 (some .int), .fieldLink RX3 24 "OtherNames$Rows" "cells" "[I", .fieldLink RX3 21 "OtherNames$Rows" "width" "I", .methodLink RX3 35 yX3_hasCell, .instanceMethod yX3_hasCell, .selects RX3 yX3_hasCell yX3_hasCell, .code yX3_hasCell cX3_hasCell 3 (some .boolean), .fieldLink RX3 28 "OtherNames$Rows" "size" "I"] ++ wsX00 ++ wsX30)
def wsX0_reasonCounts : List Cond := .code yX0_reasonCounts cX0_reasonCounts 3 (some .boolean) :: ([.fieldLink RX0 16 "OtherNames$Houses" "rows" "LOtherNames$Rows;", .methodLink RX0 35 yX3_at, .instanceMethod yX3_at, .selects RX3 yX3_at yX3_at, .initialized RX3, .code yX3_at cX3_at 3 (some .int), .fieldLink RX3 24 "OtherNames$Rows" "cells" "[I", .fieldLink RX3 21 "OtherNames$Rows" "width" "I", .methodLink RX3 35 yX3_hasCell, .instanceMethod yX3_hasCell, .selects RX3 yX3_hasCell yX3_hasCell, .code yX3_hasCell cX3_hasCell 3 (some .boolean), .fieldLink RX3 28 "OtherNames$Rows" "size" "I"] ++ wsX00 ++ wsX30)
def wsX0_isLost : List Cond := .code yX0_isLost cX0_isLost 2 (some .boolean) :: ([.fieldLink RX0 16 "OtherNames$Houses" "rows" "LOtherNames$Rows;", .methodLink RX0 35 yX3_at, .instanceMethod yX3_at, .selects RX3 yX3_at yX3_at, .initialized RX3, .code yX3_at cX3_at 3 (some .int), .fieldLink RX3 24 "OtherNames$Rows" "cells" "[I", .fieldLink RX3 21 "OtherNames$Rows" "width" "I", .methodLink RX3 35 yX3_hasCell, .instanceMethod yX3_hasCell, .selects RX3 yX3_hasCell yX3_hasCell, .code yX3_hasCell cX3_hasCell 3 (some .boolean), .fieldLink RX3 28 "OtherNames$Rows" "size" "I"] ++ wsX00 ++ wsX30)
def wsX0_setLost : List Cond := .code yX0_setLost cX0_setLost 3 none :: ([.fieldLink RX0 16 "OtherNames$Houses" "rows" "LOtherNames$Rows;", .methodLink RX0 31 yX3_put, .instanceMethod yX3_put, .selects RX3 yX3_put yX3_put, .initialized RX3, .code yX3_put cX3_put 4 none, .fieldLink RX3 24 "OtherNames$Rows" "cells" "[I", .fieldLink RX3 21 "OtherNames$Rows" "width" "I", .methodLink RX3 35 yX3_hasCell, .instanceMethod yX3_hasCell, .selects RX3 yX3_hasCell yX3_hasCell, .code yX3_hasCell cX3_hasCell 3 (some .boolean), .fieldLink RX3 28 "OtherNames$Rows" "size" "I"] ++ wsX00 ++ wsX30)
def wsX0_nameNumber : List Cond := .code yX0_nameNumber cX0_nameNumber 3 (some .int) :: ([.methodLink RX0 39 yX0_seedOf, .instanceMethod yX0_seedOf, .selects RX0 yX0_seedOf yX0_seedOf, .initialized RX0, .code yX0_seedOf cX0_seedOf 2 (some .int), .fieldLink RX0 16 "OtherNames$Houses" "rows" "LOtherNames$Rows;", .methodLink RX0 35 yX3_at, .instanceMethod yX3_at, .selects RX3 yX3_at yX3_at, .initialized RX3, .code yX3_at cX3_at 3 (some .int), .fieldLink RX3 24 "OtherNames$Rows" "cells" "[I", .fieldLink RX3 21 "OtherNames$Rows" "width" "I", .methodLink RX3 35 yX3_hasCell, .instanceMethod yX3_hasCell, .selects RX3 yX3_hasCell yX3_hasCell, .code yX3_hasCell cX3_hasCell 3 (some .boolean), .fieldLink RX3 28 "OtherNames$Rows" "size" "I"] ++ wsX00 ++ wsX30)
def wsX0_spanNumber : List Cond := .code yX0_spanNumber cX0_spanNumber 5 (some .int) :: ([.fieldLink RX0 16 "OtherNames$Houses" "rows" "LOtherNames$Rows;", .methodLink RX0 35 yX3_at, .instanceMethod yX3_at, .selects RX3 yX3_at yX3_at, .initialized RX3, .code yX3_at cX3_at 3 (some .int), .fieldLink RX3 24 "OtherNames$Rows" "cells" "[I", .fieldLink RX3 21 "OtherNames$Rows" "width" "I", .methodLink RX3 35 yX3_hasCell, .instanceMethod yX3_hasCell, .selects RX3 yX3_hasCell yX3_hasCell, .code yX3_hasCell cX3_hasCell 3 (some .boolean), .fieldLink RX3 28 "OtherNames$Rows" "size" "I", .methodLink RX0 43 yX0_isSpanned, .instanceMethod yX0_isSpanned, .selects RX0 yX0_isSpanned yX0_isSpanned, .initialized RX0, .code yX0_isSpanned cX0_isSpanned 2 (some .boolean)] ++ wsX00 ++ wsX30)
def wsX1_init : List Cond := .code yX1_init cX1_init 2 none :: ([.methodLink RX1 3 objectInit, .instanceMethod objectInit, .code objectInit ⟨#[0xb1]⟩ 1 none, .classLink RX1 9 RX3, .instantiable RX3 4, .initialized RX3, .fieldLink RX1 16 "OtherNames$Names" "rows" "LOtherNames$Rows;", .fieldLink RX1 20 "OtherNames$Names" "people" "LOtherNames$People;", .methodLink RX1 13 yX3_init, .instanceMethod yX3_init, .code yX3_init cX3_init 3 none, .methodLink RX3 3 objectInit, .methodLink RX3 9 Lib.Math.max.name, .static Lib.Math.max.name, .initialized "java/lang/Math", .code Lib.Math.max.name Lib.Math.max.code 2 (some .int), .fieldLink RX3 15 "OtherNames$Rows" "most" "I", .fieldLink RX3 21 "OtherNames$Rows" "width" "I", .arrayClass .int, .fieldLink RX3 24 "OtherNames$Rows" "cells" "[I", .fieldLink RX3 28 "OtherNames$Rows" "size" "I"] ++ wsX30 ++ wsX10)
def wsX1_size : List Cond := .code yX1_size cX1_size 1 (some .int) :: ([.fieldLink RX1 16 "OtherNames$Names" "rows" "LOtherNames$Rows;", .methodLink RX1 24 yX3_size, .instanceMethod yX3_size, .selects RX3 yX3_size yX3_size, .initialized RX3, .code yX3_size cX3_size 1 (some .int), .fieldLink RX3 28 "OtherNames$Rows" "size" "I"] ++ wsX10 ++ wsX30)
def wsX1_cell : List Cond := .code yX1_cell cX1_cell 3 (some .int) :: ([.fieldLink RX1 16 "OtherNames$Names" "rows" "LOtherNames$Rows;", .methodLink RX1 28 yX3_at, .instanceMethod yX3_at, .selects RX3 yX3_at yX3_at, .initialized RX3, .code yX3_at cX3_at 3 (some .int), .fieldLink RX3 24 "OtherNames$Rows" "cells" "[I", .fieldLink RX3 21 "OtherNames$Rows" "width" "I", .methodLink RX3 35 yX3_hasCell, .instanceMethod yX3_hasCell, .selects RX3 yX3_hasCell yX3_hasCell, .code yX3_hasCell cX3_hasCell 3 (some .boolean), .fieldLink RX3 28 "OtherNames$Rows" "size" "I"] ++ wsX10 ++ wsX30)
def wsX1_nameAt : List Cond := .code yX1_nameAt cX1_nameAt 2 (some .int) :: ([.fieldLink RX1 16 "OtherNames$Names" "rows" "LOtherNames$Rows;", .methodLink RX1 28 yX3_at, .instanceMethod yX3_at, .selects RX3 yX3_at yX3_at, .initialized RX3, .code yX3_at cX3_at 3 (some .int), .fieldLink RX3 24 "OtherNames$Rows" "cells" "[I", .fieldLink RX3 21 "OtherNames$Rows" "width" "I", .methodLink RX3 35 yX3_hasCell, .instanceMethod yX3_hasCell, .selects RX3 yX3_hasCell yX3_hasCell, .code yX3_hasCell cX3_hasCell 3 (some .boolean), .fieldLink RX3 28 "OtherNames$Rows" "size" "I"] ++ wsX10 ++ wsX30)
def wsX1_ownerAt : List Cond := .code yX1_ownerAt cX1_ownerAt 2 (some .int) :: ([.fieldLink RX1 16 "OtherNames$Names" "rows" "LOtherNames$Rows;", .methodLink RX1 28 yX3_at, .instanceMethod yX3_at, .selects RX3 yX3_at yX3_at, .initialized RX3, .code yX3_at cX3_at 3 (some .int), .fieldLink RX3 24 "OtherNames$Rows" "cells" "[I", .fieldLink RX3 21 "OtherNames$Rows" "width" "I", .methodLink RX3 35 yX3_hasCell, .instanceMethod yX3_hasCell, .selects RX3 yX3_hasCell yX3_hasCell, .code yX3_hasCell cX3_hasCell 3 (some .boolean), .fieldLink RX3 28 "OtherNames$Rows" "size" "I"] ++ wsX10 ++ wsX30)
def wsX1_spanNumberAt : List Cond := .code yX1_spanNumberAt cX1_spanNumberAt 2 (some .int) :: ([.fieldLink RX1 16 "OtherNames$Names" "rows" "LOtherNames$Rows;", .methodLink RX1 28 yX3_at, .instanceMethod yX3_at, .selects RX3 yX3_at yX3_at, .initialized RX3, .code yX3_at cX3_at 3 (some .int), .fieldLink RX3 24 "OtherNames$Rows" "cells" "[I", .fieldLink RX3 21 "OtherNames$Rows" "width" "I", .methodLink RX3 35 yX3_hasCell, .instanceMethod yX3_hasCell, .selects RX3 yX3_hasCell yX3_hasCell, .code yX3_hasCell cX3_hasCell 3 (some .boolean), .fieldLink RX3 28 "OtherNames$Rows" "size" "I"] ++ wsX10 ++ wsX30)
def wsX1_add : List Cond := .code yX1_add cX1_add 7 (some .int) :: ([.fieldLink RX1 16 "OtherNames$Names" "rows" "LOtherNames$Rows;", .methodLink RX1 32 yX3_addRow, .instanceMethod yX3_addRow, .selects RX3 yX3_addRow yX3_addRow, .initialized RX3, .code yX3_addRow cX3_addRow 1 (some .int), .fieldLink RX3 28 "OtherNames$Rows" "size" "I", .methodLink RX3 31 yX3_isFull, .instanceMethod yX3_isFull, .selects RX3 yX3_isFull yX3_isFull, .code yX3_isFull cX3_isFull 1 (some .boolean), .fieldLink RX3 15 "OtherNames$Rows" "most" "I", .methodLink RX1 35 yX3_put, .instanceMethod yX3_put, .selects RX3 yX3_put yX3_put, .code yX3_put cX3_put 4 none, .fieldLink RX3 24 "OtherNames$Rows" "cells" "[I", .fieldLink RX3 21 "OtherNames$Rows" "width" "I", .methodLink RX3 35 yX3_hasCell, .instanceMethod yX3_hasCell, .selects RX3 yX3_hasCell yX3_hasCell, .code yX3_hasCell cX3_hasCell 3 (some .boolean)] ++ wsX10 ++ wsX30)
def wsX1_find : List Cond := .code yX1_find cX1_find 4 (some .int) :: ([.fieldLink RX1 16 "OtherNames$Names" "rows" "LOtherNames$Rows;", .methodLink RX1 24 yX3_size, .instanceMethod yX3_size, .selects RX3 yX3_size yX3_size, .initialized RX3, .code yX3_size cX3_size 1 (some .int), .fieldLink RX3 28 "OtherNames$Rows" "size" "I", .methodLink RX1 28 yX3_at, .instanceMethod yX3_at, .selects RX3 yX3_at yX3_at, .code yX3_at cX3_at 3 (some .int), .fieldLink RX3 24 "OtherNames$Rows" "cells" "[I", .fieldLink RX3 21 "OtherNames$Rows" "width" "I", .methodLink RX3 35 yX3_hasCell, .instanceMethod yX3_hasCell, .selects RX3 yX3_hasCell yX3_hasCell, .code yX3_hasCell cX3_hasCell 3 (some .boolean), .methodLink RX1 39 yX1_nameAt, .instanceMethod yX1_nameAt, .selects RX1 yX1_nameAt yX1_nameAt, .initialized RX1, .code yX1_nameAt cX1_nameAt 2 (some .int)] ++ wsX10 ++ wsX30)
def wsX2_headOf : List Cond := .code yX2_headOf cX2_headOf 4 (some .int) :: ([.fieldLink RX2 16 "OtherNames$People" "rows" "LOtherNames$Rows;", .methodLink RX2 42 yX3_at, .instanceMethod yX3_at, .selects RX3 yX3_at yX3_at, .initialized RX3, .code yX3_at cX3_at 3 (some .int), .fieldLink RX3 24 "OtherNames$Rows" "cells" "[I", .fieldLink RX3 21 "OtherNames$Rows" "width" "I", .methodLink RX3 35 yX3_hasCell, .instanceMethod yX3_hasCell, .selects RX3 yX3_hasCell yX3_hasCell, .code yX3_hasCell cX3_hasCell 3 (some .boolean), .fieldLink RX3 28 "OtherNames$Rows" "size" "I"] ++ wsX20 ++ wsX30)
def wsX1_firstFor_r1 : List Cond := [Cond.fieldLink RX1 16 "OtherNames$Names" "rows" "LOtherNames$Rows;", Cond.fieldLink RX1 20 "OtherNames$Names" "people" "LOtherNames$People;", Cond.methodLink RX1 24 yX3_size, Cond.instanceMethod yX3_size, Cond.selects RX3 yX3_size yX3_size, Cond.initialized RX3, Cond.code yX3_size cX3_size 1 (some .int), Cond.fieldLink RX3 28 "OtherNames$Rows" "size" "I", Cond.methodLink RX1 28 yX3_at, Cond.instanceMethod yX3_at, Cond.selects RX3 yX3_at yX3_at, Cond.code yX3_at cX3_at 3 (some .int), Cond.fieldLink RX3 24 "OtherNames$Rows" "cells" "[I", Cond.fieldLink RX3 21 "OtherNames$Rows" "width" "I", Cond.methodLink RX3 35 yX3_hasCell, Cond.instanceMethod yX3_hasCell, Cond.selects RX3 yX3_hasCell yX3_hasCell, Cond.code yX3_hasCell cX3_hasCell 3 (some .boolean), Cond.methodLink RX1 43 yX1_spanNumberAt, Cond.instanceMethod yX1_spanNumberAt, Cond.selects RX1 yX1_spanNumberAt yX1_spanNumberAt, Cond.initialized RX1, Cond.code yX1_spanNumberAt cX1_spanNumberAt 2 (some .int), Cond.methodLink RX1 46 yX1_ownerAt]
def wsX1_firstFor_r2 : List Cond := [Cond.instanceMethod yX1_ownerAt, Cond.selects RX1 yX1_ownerAt yX1_ownerAt, Cond.code yX1_ownerAt cX1_ownerAt 2 (some .int), Cond.methodLink RX1 49 yX2_headOf, Cond.instanceMethod yX2_headOf, Cond.selects RX2 yX2_headOf yX2_headOf, Cond.initialized RX2, Cond.code yX2_headOf cX2_headOf 4 (some .int), Cond.fieldLink RX2 16 "OtherNames$People" "rows" "LOtherNames$Rows;", Cond.methodLink RX2 42 yX3_at]
def wsX1_firstFor : List Cond := .code yX1_firstFor cX1_firstFor 6 (some .int) :: ((wsX1_firstFor_r1 ++ wsX1_firstFor_r2) ++ wsX10 ++ wsX30 ++ wsX20)
def wsX1_leadsTo_r1 : List Cond := [Cond.fieldLink RX1 16 "OtherNames$Names" "rows" "LOtherNames$Rows;", Cond.fieldLink RX1 20 "OtherNames$Names" "people" "LOtherNames$People;", Cond.methodLink RX1 28 yX3_at, Cond.instanceMethod yX3_at, Cond.selects RX3 yX3_at yX3_at, Cond.initialized RX3, Cond.code yX3_at cX3_at 3 (some .int), Cond.fieldLink RX3 24 "OtherNames$Rows" "cells" "[I", Cond.fieldLink RX3 21 "OtherNames$Rows" "width" "I", Cond.methodLink RX3 35 yX3_hasCell, Cond.instanceMethod yX3_hasCell, Cond.selects RX3 yX3_hasCell yX3_hasCell, Cond.code yX3_hasCell cX3_hasCell 3 (some .boolean), Cond.fieldLink RX3 28 "OtherNames$Rows" "size" "I", Cond.methodLink RX1 43 yX1_spanNumberAt, Cond.instanceMethod yX1_spanNumberAt, Cond.selects RX1 yX1_spanNumberAt yX1_spanNumberAt, Cond.initialized RX1, Cond.code yX1_spanNumberAt cX1_spanNumberAt 2 (some .int), Cond.methodLink RX1 46 yX1_ownerAt, Cond.instanceMethod yX1_ownerAt, Cond.selects RX1 yX1_ownerAt yX1_ownerAt, Cond.code yX1_ownerAt cX1_ownerAt 2 (some .int), Cond.methodLink RX1 49 yX2_headOf]
def wsX1_leadsTo_r2 : List Cond := [Cond.instanceMethod yX2_headOf, Cond.selects RX2 yX2_headOf yX2_headOf, Cond.initialized RX2, Cond.code yX2_headOf cX2_headOf 4 (some .int), Cond.fieldLink RX2 16 "OtherNames$People" "rows" "LOtherNames$Rows;", Cond.methodLink RX2 42 yX3_at, Cond.methodLink RX1 54 yX1_firstFor, Cond.instanceMethod yX1_firstFor, Cond.selects RX1 yX1_firstFor yX1_firstFor, Cond.code yX1_firstFor cX1_firstFor 6 (some .int), Cond.methodLink RX1 24 yX3_size, Cond.instanceMethod yX3_size, Cond.selects RX3 yX3_size yX3_size, Cond.code yX3_size cX3_size 1 (some .int)]
def wsX1_leadsTo : List Cond := .code yX1_leadsTo cX1_leadsTo 2 (some .int) :: ((wsX1_leadsTo_r1 ++ wsX1_leadsTo_r2) ++ wsX10 ++ wsX30 ++ wsX20)
def wsX1_countWith : List Cond := .code yX1_countWith cX1_countWith 5 (some .int) :: ([.fieldLink RX1 16 "OtherNames$Names" "rows" "LOtherNames$Rows;", .methodLink RX1 24 yX3_size, .instanceMethod yX3_size, .selects RX3 yX3_size yX3_size, .initialized RX3, .code yX3_size cX3_size 1 (some .int), .fieldLink RX3 28 "OtherNames$Rows" "size" "I", .methodLink RX1 28 yX3_at, .instanceMethod yX3_at, .selects RX3 yX3_at yX3_at, .code yX3_at cX3_at 3 (some .int), .fieldLink RX3 24 "OtherNames$Rows" "cells" "[I", .fieldLink RX3 21 "OtherNames$Rows" "width" "I", .methodLink RX3 35 yX3_hasCell, .instanceMethod yX3_hasCell, .selects RX3 yX3_hasCell yX3_hasCell, .code yX3_hasCell cX3_hasCell 3 (some .boolean)] ++ wsX10 ++ wsX30)
def wsX1_countGivenBy : List Cond := .code yX1_countGivenBy cX1_countGivenBy 2 (some .int) :: ([.methodLink RX1 58 yX1_countWith, .instanceMethod yX1_countWith, .selects RX1 yX1_countWith yX1_countWith, .initialized RX1, .code yX1_countWith cX1_countWith 5 (some .int), .fieldLink RX1 16 "OtherNames$Names" "rows" "LOtherNames$Rows;", .methodLink RX1 24 yX3_size, .instanceMethod yX3_size, .selects RX3 yX3_size yX3_size, .initialized RX3, .code yX3_size cX3_size 1 (some .int), .fieldLink RX3 28 "OtherNames$Rows" "size" "I", .methodLink RX1 28 yX3_at, .instanceMethod yX3_at, .selects RX3 yX3_at yX3_at, .code yX3_at cX3_at 3 (some .int), .fieldLink RX3 24 "OtherNames$Rows" "cells" "[I", .fieldLink RX3 21 "OtherNames$Rows" "width" "I", .methodLink RX3 35 yX3_hasCell, .instanceMethod yX3_hasCell, .selects RX3 yX3_hasCell yX3_hasCell, .code yX3_hasCell cX3_hasCell 3 (some .boolean)] ++ wsX10 ++ wsX30)
def wsX1_countOwnedBy : List Cond := .code yX1_countOwnedBy cX1_countOwnedBy 2 (some .int) :: ([.methodLink RX1 58 yX1_countWith, .instanceMethod yX1_countWith, .selects RX1 yX1_countWith yX1_countWith, .initialized RX1, .code yX1_countWith cX1_countWith 5 (some .int), .fieldLink RX1 16 "OtherNames$Names" "rows" "LOtherNames$Rows;", .methodLink RX1 24 yX3_size, .instanceMethod yX3_size, .selects RX3 yX3_size yX3_size, .initialized RX3, .code yX3_size cX3_size 1 (some .int), .fieldLink RX3 28 "OtherNames$Rows" "size" "I", .methodLink RX1 28 yX3_at, .instanceMethod yX3_at, .selects RX3 yX3_at yX3_at, .code yX3_at cX3_at 3 (some .int), .fieldLink RX3 24 "OtherNames$Rows" "cells" "[I", .fieldLink RX3 21 "OtherNames$Rows" "width" "I", .methodLink RX3 35 yX3_hasCell, .instanceMethod yX3_hasCell, .selects RX3 yX3_hasCell yX3_hasCell, .code yX3_hasCell cX3_hasCell 3 (some .boolean)] ++ wsX10 ++ wsX30)
def wsX2_isStruckOut : List Cond := .code yX2_isStruckOut cX2_isStruckOut 2 (some .boolean) :: ([.fieldLink RX2 16 "OtherNames$People" "rows" "LOtherNames$Rows;", .methodLink RX2 42 yX3_at, .instanceMethod yX3_at, .selects RX3 yX3_at yX3_at, .initialized RX3, .code yX3_at cX3_at 3 (some .int), .fieldLink RX3 24 "OtherNames$Rows" "cells" "[I", .fieldLink RX3 21 "OtherNames$Rows" "width" "I", .methodLink RX3 35 yX3_hasCell, .instanceMethod yX3_hasCell, .selects RX3 yX3_hasCell yX3_hasCell, .code yX3_hasCell cX3_hasCell 3 (some .boolean), .fieldLink RX3 28 "OtherNames$Rows" "size" "I"] ++ wsX20 ++ wsX30)
def wsX1_knownTo_r1 : List Cond := [Cond.fieldLink RX1 16 "OtherNames$Names" "rows" "LOtherNames$Rows;", Cond.fieldLink RX1 20 "OtherNames$Names" "people" "LOtherNames$People;", Cond.methodLink RX1 24 yX3_size, Cond.instanceMethod yX3_size, Cond.selects RX3 yX3_size yX3_size, Cond.initialized RX3, Cond.code yX3_size cX3_size 1 (some .int), Cond.fieldLink RX3 28 "OtherNames$Rows" "size" "I", Cond.methodLink RX1 46 yX1_ownerAt, Cond.instanceMethod yX1_ownerAt, Cond.selects RX1 yX1_ownerAt yX1_ownerAt, Cond.initialized RX1, Cond.code yX1_ownerAt cX1_ownerAt 2 (some .int), Cond.methodLink RX1 28 yX3_at, Cond.instanceMethod yX3_at, Cond.selects RX3 yX3_at yX3_at, Cond.code yX3_at cX3_at 3 (some .int), Cond.fieldLink RX3 24 "OtherNames$Rows" "cells" "[I", Cond.fieldLink RX3 21 "OtherNames$Rows" "width" "I", Cond.methodLink RX3 35 yX3_hasCell, Cond.instanceMethod yX3_hasCell, Cond.selects RX3 yX3_hasCell yX3_hasCell, Cond.code yX3_hasCell cX3_hasCell 3 (some .boolean), Cond.methodLink RX1 49 yX2_headOf]
def wsX1_knownTo_r2 : List Cond := [Cond.instanceMethod yX2_headOf, Cond.selects RX2 yX2_headOf yX2_headOf, Cond.initialized RX2, Cond.code yX2_headOf cX2_headOf 4 (some .int), Cond.fieldLink RX2 16 "OtherNames$People" "rows" "LOtherNames$Rows;", Cond.methodLink RX2 42 yX3_at, Cond.methodLink RX1 61 yX2_isStruckOut, Cond.instanceMethod yX2_isStruckOut, Cond.selects RX2 yX2_isStruckOut yX2_isStruckOut, Cond.code yX2_isStruckOut cX2_isStruckOut 2 (some .boolean)]
def wsX1_knownTo : List Cond := .code yX1_knownTo cX1_knownTo 5 (some .int) :: ((wsX1_knownTo_r1 ++ wsX1_knownTo_r2) ++ wsX10 ++ wsX30 ++ wsX20)
def wsX2_init : List Cond := .code yX2_init cX2_init 1 none :: ([.methodLink RX2 3 objectInit, .instanceMethod objectInit, .code objectInit ⟨#[0xb1]⟩ 1 none, .classLink RX2 9 RX3, .instantiable RX3 4, .initialized RX3, .fieldLink RX2 16 "OtherNames$People" "rows" "LOtherNames$Rows;", .methodLink RX2 13 yX3_init, .instanceMethod yX3_init, .code yX3_init cX3_init 3 none, .methodLink RX3 3 objectInit, .methodLink RX3 9 Lib.Math.max.name, .static Lib.Math.max.name, .initialized "java/lang/Math", .code Lib.Math.max.name Lib.Math.max.code 2 (some .int), .fieldLink RX3 15 "OtherNames$Rows" "most" "I", .fieldLink RX3 21 "OtherNames$Rows" "width" "I", .arrayClass .int, .fieldLink RX3 24 "OtherNames$Rows" "cells" "[I", .fieldLink RX3 28 "OtherNames$Rows" "size" "I"] ++ wsX30 ++ wsX20)
def wsX2_isMark : List Cond := .code yX2_isMark cX2_isMark 1 (some .boolean) :: ([])
def wsX2_isMarkNumber : List Cond := .code yX2_isMarkNumber cX2_isMarkNumber 1 (some .boolean) :: ([])
def wsX2_size : List Cond := .code yX2_size cX2_size 1 (some .int) :: ([.fieldLink RX2 16 "OtherNames$People" "rows" "LOtherNames$Rows;", .methodLink RX2 20 yX3_size, .instanceMethod yX3_size, .selects RX3 yX3_size yX3_size, .initialized RX3, .code yX3_size cX3_size 1 (some .int), .fieldLink RX3 28 "OtherNames$Rows" "size" "I"] ++ wsX20 ++ wsX30)
def wsX2_isThere : List Cond := .code yX2_isThere cX2_isThere 2 (some .boolean) :: ([.fieldLink RX2 16 "OtherNames$People" "rows" "LOtherNames$Rows;", .methodLink RX2 24 yX3_isThere, .instanceMethod yX3_isThere, .selects RX3 yX3_isThere yX3_isThere, .initialized RX3, .code yX3_isThere cX3_isThere 2 (some .boolean), .fieldLink RX3 28 "OtherNames$Rows" "size" "I"] ++ wsX20 ++ wsX30)
def wsX2_add_r1 : List Cond := [Cond.fieldLink RX2 16 "OtherNames$People" "rows" "LOtherNames$Rows;", Cond.methodLink RX2 28 yX2_isMarkNumber, Cond.static yX2_isMarkNumber, Cond.initialized RX2, Cond.code yX2_isMarkNumber cX2_isMarkNumber 1 (some .boolean), Cond.methodLink RX2 31 yX3_addRow, Cond.instanceMethod yX3_addRow, Cond.selects RX3 yX3_addRow yX3_addRow, Cond.initialized RX3, Cond.code yX3_addRow cX3_addRow 1 (some .int), Cond.fieldLink RX3 28 "OtherNames$Rows" "size" "I", Cond.methodLink RX3 31 yX3_isFull, Cond.instanceMethod yX3_isFull, Cond.selects RX3 yX3_isFull yX3_isFull, Cond.code yX3_isFull cX3_isFull 1 (some .boolean), Cond.fieldLink RX3 15 "OtherNames$Rows" "most" "I", Cond.methodLink RX2 34 yX3_put, Cond.instanceMethod yX3_put, Cond.selects RX3 yX3_put yX3_put, Cond.code yX3_put cX3_put 4 none, Cond.fieldLink RX3 24 "OtherNames$Rows" "cells" "[I", Cond.fieldLink RX3 21 "OtherNames$Rows" "width" "I", Cond.methodLink RX3 35 yX3_hasCell, Cond.instanceMethod yX3_hasCell]
def wsX2_add_r2 : List Cond := [Cond.selects RX3 yX3_hasCell yX3_hasCell, Cond.code yX3_hasCell cX3_hasCell 3 (some .boolean)]
def wsX2_add : List Cond := .code yX2_add cX2_add 6 (some .int) :: ((wsX2_add_r1 ++ wsX2_add_r2) ++ wsX20 ++ wsX30)
def wsX2_setMark_r1 : List Cond := [Cond.fieldLink RX2 16 "OtherNames$People" "rows" "LOtherNames$Rows;", Cond.methodLink RX2 38 yX2_isThere, Cond.instanceMethod yX2_isThere, Cond.selects RX2 yX2_isThere yX2_isThere, Cond.initialized RX2, Cond.code yX2_isThere cX2_isThere 2 (some .boolean), Cond.methodLink RX2 24 yX3_isThere, Cond.instanceMethod yX3_isThere, Cond.selects RX3 yX3_isThere yX3_isThere, Cond.initialized RX3, Cond.code yX3_isThere cX3_isThere 2 (some .boolean), Cond.fieldLink RX3 28 "OtherNames$Rows" "size" "I", Cond.methodLink RX2 39 yX2_isMark, Cond.static yX2_isMark, Cond.code yX2_isMark cX2_isMark 1 (some .boolean), Cond.methodLink RX2 28 yX2_isMarkNumber, Cond.static yX2_isMarkNumber, Cond.code yX2_isMarkNumber cX2_isMarkNumber 1 (some .boolean), Cond.methodLink RX2 34 yX3_put, Cond.instanceMethod yX3_put, Cond.selects RX3 yX3_put yX3_put, Cond.code yX3_put cX3_put 4 none, Cond.fieldLink RX3 24 "OtherNames$Rows" "cells" "[I", Cond.fieldLink RX3 21 "OtherNames$Rows" "width" "I"]
def wsX2_setMark_r2 : List Cond := [Cond.methodLink RX3 35 yX3_hasCell, Cond.instanceMethod yX3_hasCell, Cond.selects RX3 yX3_hasCell yX3_hasCell, Cond.code yX3_hasCell cX3_hasCell 3 (some .boolean)]
def wsX2_setMark : List Cond := .code yX2_setMark cX2_setMark 4 (some .boolean) :: ((wsX2_setMark_r1 ++ wsX2_setMark_r2) ++ wsX20 ++ wsX30)
def wsX2_markOf : List Cond := .code yX2_markOf cX2_markOf 3 (some .int) :: ([.fieldLink RX2 16 "OtherNames$People" "rows" "LOtherNames$Rows;", .methodLink RX2 39 yX2_isMark, .static yX2_isMark, .initialized RX2, .code yX2_isMark cX2_isMark 1 (some .boolean), .methodLink RX2 42 yX3_at, .instanceMethod yX3_at, .selects RX3 yX3_at yX3_at, .initialized RX3, .code yX3_at cX3_at 3 (some .int), .fieldLink RX3 24 "OtherNames$Rows" "cells" "[I", .fieldLink RX3 21 "OtherNames$Rows" "width" "I", .methodLink RX3 35 yX3_hasCell, .instanceMethod yX3_hasCell, .selects RX3 yX3_hasCell yX3_hasCell, .code yX3_hasCell cX3_hasCell 3 (some .boolean), .fieldLink RX3 28 "OtherNames$Rows" "size" "I"] ++ wsX20 ++ wsX30)
def wsX2_holderOf : List Cond := .code yX2_holderOf cX2_holderOf 2 (some .int) :: ([.fieldLink RX2 16 "OtherNames$People" "rows" "LOtherNames$Rows;", .methodLink RX2 42 yX3_at, .instanceMethod yX3_at, .selects RX3 yX3_at yX3_at, .initialized RX3, .code yX3_at cX3_at 3 (some .int), .fieldLink RX3 24 "OtherNames$Rows" "cells" "[I", .fieldLink RX3 21 "OtherNames$Rows" "width" "I", .methodLink RX3 35 yX3_hasCell, .instanceMethod yX3_hasCell, .selects RX3 yX3_hasCell yX3_hasCell, .code yX3_hasCell cX3_hasCell 3 (some .boolean), .fieldLink RX3 28 "OtherNames$Rows" "size" "I"] ++ wsX20 ++ wsX30)
def wsX2_isHead_r1 : List Cond := [Cond.methodLink RX2 38 yX2_isThere, Cond.instanceMethod yX2_isThere, Cond.selects RX2 yX2_isThere yX2_isThere, Cond.initialized RX2, Cond.code yX2_isThere cX2_isThere 2 (some .boolean), Cond.fieldLink RX2 16 "OtherNames$People" "rows" "LOtherNames$Rows;", Cond.methodLink RX2 24 yX3_isThere, Cond.instanceMethod yX3_isThere, Cond.selects RX3 yX3_isThere yX3_isThere, Cond.initialized RX3, Cond.code yX3_isThere cX3_isThere 2 (some .boolean), Cond.fieldLink RX3 28 "OtherNames$Rows" "size" "I", Cond.methodLink RX2 56 yX2_holderOf, Cond.instanceMethod yX2_holderOf, Cond.selects RX2 yX2_holderOf yX2_holderOf, Cond.code yX2_holderOf cX2_holderOf 2 (some .int), Cond.methodLink RX2 42 yX3_at, Cond.instanceMethod yX3_at, Cond.selects RX3 yX3_at yX3_at, Cond.code yX3_at cX3_at 3 (some .int), Cond.fieldLink RX3 24 "OtherNames$Rows" "cells" "[I", Cond.fieldLink RX3 21 "OtherNames$Rows" "width" "I", Cond.methodLink RX3 35 yX3_hasCell, Cond.instanceMethod yX3_hasCell]
def wsX2_isHead_r2 : List Cond := [Cond.selects RX3 yX3_hasCell yX3_hasCell, Cond.code yX3_hasCell cX3_hasCell 3 (some .boolean)]
def wsX2_isHead : List Cond := .code yX2_isHead cX2_isHead 2 (some .boolean) :: ((wsX2_isHead_r1 ++ wsX2_isHead_r2) ++ wsX20 ++ wsX30)
def wsX2_strikeOutAllUnder_r1 : List Cond := [Cond.fieldLink RX2 16 "OtherNames$People" "rows" "LOtherNames$Rows;", Cond.methodLink RX2 38 yX2_isThere, Cond.instanceMethod yX2_isThere, Cond.selects RX2 yX2_isThere yX2_isThere, Cond.initialized RX2, Cond.code yX2_isThere cX2_isThere 2 (some .boolean), Cond.methodLink RX2 24 yX3_isThere, Cond.instanceMethod yX3_isThere, Cond.selects RX3 yX3_isThere yX3_isThere, Cond.initialized RX3, Cond.code yX3_isThere cX3_isThere 2 (some .boolean), Cond.fieldLink RX3 28 "OtherNames$Rows" "size" "I", Cond.methodLink RX2 60 yX2_headOf, Cond.instanceMethod yX2_headOf, Cond.selects RX2 yX2_headOf yX2_headOf, Cond.code yX2_headOf cX2_headOf 4 (some .int), Cond.methodLink RX2 42 yX3_at, Cond.instanceMethod yX3_at, Cond.selects RX3 yX3_at yX3_at, Cond.code yX3_at cX3_at 3 (some .int), Cond.fieldLink RX3 24 "OtherNames$Rows" "cells" "[I", Cond.fieldLink RX3 21 "OtherNames$Rows" "width" "I", Cond.methodLink RX3 35 yX3_hasCell, Cond.instanceMethod yX3_hasCell]
def wsX2_strikeOutAllUnder_r2 : List Cond := [Cond.selects RX3 yX3_hasCell yX3_hasCell, Cond.code yX3_hasCell cX3_hasCell 3 (some .boolean), Cond.methodLink RX2 34 yX3_put, Cond.instanceMethod yX3_put, Cond.selects RX3 yX3_put yX3_put, Cond.code yX3_put cX3_put 4 none]
def wsX2_strikeOutAllUnder : List Cond := .code yX2_strikeOutAllUnder cX2_strikeOutAllUnder 3 none :: ((wsX2_strikeOutAllUnder_r1 ++ wsX2_strikeOutAllUnder_r2) ++ wsX20 ++ wsX30)
def wsX2_join_r1 : List Cond := [Cond.fieldLink RX2 16 "OtherNames$People" "rows" "LOtherNames$Rows;", Cond.methodLink RX2 46 yX2_isHead, Cond.instanceMethod yX2_isHead, Cond.selects RX2 yX2_isHead yX2_isHead, Cond.initialized RX2, Cond.code yX2_isHead cX2_isHead 2 (some .boolean), Cond.methodLink RX2 38 yX2_isThere, Cond.instanceMethod yX2_isThere, Cond.selects RX2 yX2_isThere yX2_isThere, Cond.code yX2_isThere cX2_isThere 2 (some .boolean), Cond.methodLink RX2 24 yX3_isThere, Cond.instanceMethod yX3_isThere, Cond.selects RX3 yX3_isThere yX3_isThere, Cond.initialized RX3, Cond.code yX3_isThere cX3_isThere 2 (some .boolean), Cond.fieldLink RX3 28 "OtherNames$Rows" "size" "I", Cond.methodLink RX2 56 yX2_holderOf, Cond.instanceMethod yX2_holderOf, Cond.selects RX2 yX2_holderOf yX2_holderOf, Cond.code yX2_holderOf cX2_holderOf 2 (some .int), Cond.methodLink RX2 42 yX3_at, Cond.instanceMethod yX3_at, Cond.selects RX3 yX3_at yX3_at, Cond.code yX3_at cX3_at 3 (some .int)]
def wsX2_join_r2 : List Cond := [Cond.fieldLink RX3 24 "OtherNames$Rows" "cells" "[I", Cond.fieldLink RX3 21 "OtherNames$Rows" "width" "I", Cond.methodLink RX3 35 yX3_hasCell, Cond.instanceMethod yX3_hasCell, Cond.selects RX3 yX3_hasCell yX3_hasCell, Cond.code yX3_hasCell cX3_hasCell 3 (some .boolean), Cond.methodLink RX2 34 yX3_put, Cond.instanceMethod yX3_put, Cond.selects RX3 yX3_put yX3_put, Cond.code yX3_put cX3_put 4 none, Cond.methodLink RX2 49 yX2_isStruckOut, Cond.instanceMethod yX2_isStruckOut, Cond.selects RX2 yX2_isStruckOut yX2_isStruckOut, Cond.code yX2_isStruckOut cX2_isStruckOut 2 (some .boolean), Cond.methodLink RX2 52 yX2_strikeOutAllUnder, Cond.instanceMethod yX2_strikeOutAllUnder, Cond.selects RX2 yX2_strikeOutAllUnder yX2_strikeOutAllUnder, Cond.code yX2_strikeOutAllUnder cX2_strikeOutAllUnder 3 none, Cond.methodLink RX2 60 yX2_headOf, Cond.instanceMethod yX2_headOf, Cond.selects RX2 yX2_headOf yX2_headOf, Cond.code yX2_headOf cX2_headOf 4 (some .int)]
def wsX2_join : List Cond := .code yX2_join cX2_join 3 (some .boolean) :: ((wsX2_join_r1 ++ wsX2_join_r2) ++ wsX20 ++ wsX30)
def wsX2_leave : List Cond := .code yX2_leave cX2_leave 2 (some .boolean) :: ([.fieldLink RX2 16 "OtherNames$People" "rows" "LOtherNames$Rows;", .methodLink RX2 56 yX2_holderOf, .instanceMethod yX2_holderOf, .selects RX2 yX2_holderOf yX2_holderOf, .initialized RX2, .code yX2_holderOf cX2_holderOf 2 (some .int), .methodLink RX2 42 yX3_at, .instanceMethod yX3_at, .selects RX3 yX3_at yX3_at, .initialized RX3, .code yX3_at cX3_at 3 (some .int), .fieldLink RX3 24 "OtherNames$Rows" "cells" "[I", .fieldLink RX3 21 "OtherNames$Rows" "width" "I", .methodLink RX3 35 yX3_hasCell, .instanceMethod yX3_hasCell, .selects RX3 yX3_hasCell yX3_hasCell, .code yX3_hasCell cX3_hasCell 3 (some .boolean), .fieldLink RX3 28 "OtherNames$Rows" "size" "I", .methodLink RX2 34 yX3_put, .instanceMethod yX3_put, .selects RX3 yX3_put yX3_put, .code yX3_put cX3_put 4 none] ++ wsX20 ++ wsX30)
def wsX2_strikeOut_r1 : List Cond := [Cond.methodLink RX2 38 yX2_isThere, Cond.instanceMethod yX2_isThere, Cond.selects RX2 yX2_isThere yX2_isThere, Cond.initialized RX2, Cond.code yX2_isThere cX2_isThere 2 (some .boolean), Cond.fieldLink RX2 16 "OtherNames$People" "rows" "LOtherNames$Rows;", Cond.methodLink RX2 24 yX3_isThere, Cond.instanceMethod yX3_isThere, Cond.selects RX3 yX3_isThere yX3_isThere, Cond.initialized RX3, Cond.code yX3_isThere cX3_isThere 2 (some .boolean), Cond.fieldLink RX3 28 "OtherNames$Rows" "size" "I", Cond.methodLink RX2 49 yX2_isStruckOut, Cond.instanceMethod yX2_isStruckOut, Cond.selects RX2 yX2_isStruckOut yX2_isStruckOut, Cond.code yX2_isStruckOut cX2_isStruckOut 2 (some .boolean), Cond.methodLink RX2 42 yX3_at, Cond.instanceMethod yX3_at, Cond.selects RX3 yX3_at yX3_at, Cond.code yX3_at cX3_at 3 (some .int), Cond.fieldLink RX3 24 "OtherNames$Rows" "cells" "[I", Cond.fieldLink RX3 21 "OtherNames$Rows" "width" "I", Cond.methodLink RX3 35 yX3_hasCell, Cond.instanceMethod yX3_hasCell]
def wsX2_strikeOut_r2 : List Cond := [Cond.selects RX3 yX3_hasCell yX3_hasCell, Cond.code yX3_hasCell cX3_hasCell 3 (some .boolean), Cond.methodLink RX2 60 yX2_headOf, Cond.instanceMethod yX2_headOf, Cond.selects RX2 yX2_headOf yX2_headOf, Cond.code yX2_headOf cX2_headOf 4 (some .int), Cond.methodLink RX2 52 yX2_strikeOutAllUnder, Cond.instanceMethod yX2_strikeOutAllUnder, Cond.selects RX2 yX2_strikeOutAllUnder yX2_strikeOutAllUnder, Cond.code yX2_strikeOutAllUnder cX2_strikeOutAllUnder 3 none, Cond.methodLink RX2 34 yX3_put, Cond.instanceMethod yX3_put, Cond.selects RX3 yX3_put yX3_put, Cond.code yX3_put cX3_put 4 none]
def wsX2_strikeOut : List Cond := .code yX2_strikeOut cX2_strikeOut 2 (some .boolean) :: ((wsX2_strikeOut_r1 ++ wsX2_strikeOut_r2) ++ wsX20 ++ wsX30)
def wsX2_isAmong : List Cond := .code yX2_isAmong cX2_isAmong 2 (some .boolean) :: ([])
def wsX2_areAlike : List Cond := .code yX2_areAlike cX2_areAlike 5 (some .boolean) :: ([.methodLink RX2 63 yX2_isAmong, .static yX2_isAmong, .initialized RX2, .code yX2_isAmong cX2_isAmong 2 (some .boolean), .methodLink RX2 71 yX2_markOf, .instanceMethod yX2_markOf, .selects RX2 yX2_markOf yX2_markOf, .code yX2_markOf cX2_markOf 3 (some .int), .fieldLink RX2 16 "OtherNames$People" "rows" "LOtherNames$Rows;", .methodLink RX2 39 yX2_isMark, .static yX2_isMark, .code yX2_isMark cX2_isMark 1 (some .boolean), .methodLink RX2 42 yX3_at, .instanceMethod yX3_at, .selects RX3 yX3_at yX3_at, .initialized RX3, .code yX3_at cX3_at 3 (some .int), .fieldLink RX3 24 "OtherNames$Rows" "cells" "[I", .fieldLink RX3 21 "OtherNames$Rows" "width" "I", .methodLink RX3 35 yX3_hasCell, .instanceMethod yX3_hasCell, .selects RX3 yX3_hasCell yX3_hasCell, .code yX3_hasCell cX3_hasCell 3 (some .boolean), .fieldLink RX3 28 "OtherNames$Rows" "size" "I"] ++ wsX20 ++ wsX30)
def wsX2_groupSize_r1 : List Cond := [Cond.methodLink RX2 63 yX2_isAmong, Cond.static yX2_isAmong, Cond.initialized RX2, Cond.code yX2_isAmong cX2_isAmong 2 (some .boolean), Cond.methodLink RX2 67 yX2_areAlike, Cond.instanceMethod yX2_areAlike, Cond.selects RX2 yX2_areAlike yX2_areAlike, Cond.code yX2_areAlike cX2_areAlike 5 (some .boolean), Cond.methodLink RX2 71 yX2_markOf, Cond.instanceMethod yX2_markOf, Cond.selects RX2 yX2_markOf yX2_markOf, Cond.code yX2_markOf cX2_markOf 3 (some .int), Cond.fieldLink RX2 16 "OtherNames$People" "rows" "LOtherNames$Rows;", Cond.methodLink RX2 39 yX2_isMark, Cond.static yX2_isMark, Cond.code yX2_isMark cX2_isMark 1 (some .boolean), Cond.methodLink RX2 42 yX3_at, Cond.instanceMethod yX3_at, Cond.selects RX3 yX3_at yX3_at, Cond.initialized RX3, Cond.code yX3_at cX3_at 3 (some .int), Cond.fieldLink RX3 24 "OtherNames$Rows" "cells" "[I", Cond.fieldLink RX3 21 "OtherNames$Rows" "width" "I", Cond.methodLink RX3 35 yX3_hasCell]
def wsX2_groupSize_r2 : List Cond := [Cond.instanceMethod yX3_hasCell, Cond.selects RX3 yX3_hasCell yX3_hasCell, Cond.code yX3_hasCell cX3_hasCell 3 (some .boolean), Cond.fieldLink RX3 28 "OtherNames$Rows" "size" "I"]
def wsX2_groupSize : List Cond := .code yX2_groupSize cX2_groupSize 6 (some .int) :: ((wsX2_groupSize_r1 ++ wsX2_groupSize_r2) ++ wsX20 ++ wsX30)
def wsX2_countHaving : List Cond := .code yX2_countHaving cX2_countHaving 6 (some .int) :: ([.methodLink RX2 63 yX2_isAmong, .static yX2_isAmong, .initialized RX2, .code yX2_isAmong cX2_isAmong 2 (some .boolean), .methodLink RX2 71 yX2_markOf, .instanceMethod yX2_markOf, .selects RX2 yX2_markOf yX2_markOf, .code yX2_markOf cX2_markOf 3 (some .int), .fieldLink RX2 16 "OtherNames$People" "rows" "LOtherNames$Rows;", .methodLink RX2 39 yX2_isMark, .static yX2_isMark, .code yX2_isMark cX2_isMark 1 (some .boolean), .methodLink RX2 42 yX3_at, .instanceMethod yX3_at, .selects RX3 yX3_at yX3_at, .initialized RX3, .code yX3_at cX3_at 3 (some .int), .fieldLink RX3 24 "OtherNames$Rows" "cells" "[I", .fieldLink RX3 21 "OtherNames$Rows" "width" "I", .methodLink RX3 35 yX3_hasCell, .instanceMethod yX3_hasCell, .selects RX3 yX3_hasCell yX3_hasCell, .code yX3_hasCell cX3_hasCell 3 (some .boolean), .fieldLink RX3 28 "OtherNames$Rows" "size" "I"] ++ wsX20 ++ wsX30)
def wsX4_init_r1 : List Cond := [Cond.methodLink RX4 1 objectInit, Cond.instanceMethod objectInit, Cond.code objectInit ⟨#[0xb1]⟩ 1 none, Cond.classLink RX4 7 RX2, Cond.instantiable RX2 1, Cond.initialized RX2, Cond.fieldLink RX4 10 "OtherNames" "people" "LOtherNames$People;", Cond.classLink RX4 16 RX0, Cond.instantiable RX0 1, Cond.initialized RX0, Cond.fieldLink RX4 19 "OtherNames" "houses" "LOtherNames$Houses;", Cond.classLink RX4 23 RX1, Cond.instantiable RX1 2, Cond.initialized RX1, Cond.fieldLink RX4 28 "OtherNames" "names" "LOtherNames$Names;", Cond.classLink RX4 32 RX3, Cond.instantiable RX3 4, Cond.initialized RX3, Cond.fieldLink RX4 37 "OtherNames" "bridges" "LOtherNames$Rows;", Cond.fieldLink RX4 41 "OtherNames" "entries" "LOtherNames$Rows;", Cond.fieldLink RX4 44 "OtherNames" "today" "I", Cond.methodLink RX4 9 yX2_init, Cond.instanceMethod yX2_init, Cond.code yX2_init cX2_init 1 none]
def wsX4_init_r2 : List Cond := [Cond.methodLink RX2 3 objectInit, Cond.classLink RX2 9 RX3, Cond.fieldLink RX2 16 "OtherNames$People" "rows" "LOtherNames$Rows;", Cond.methodLink RX2 13 yX3_init, Cond.instanceMethod yX3_init, Cond.code yX3_init cX3_init 3 none, Cond.methodLink RX3 3 objectInit, Cond.methodLink RX3 9 Lib.Math.max.name, Cond.static Lib.Math.max.name, Cond.initialized "java/lang/Math", Cond.code Lib.Math.max.name Lib.Math.max.code 2 (some .int), Cond.fieldLink RX3 15 "OtherNames$Rows" "most" "I", Cond.fieldLink RX3 21 "OtherNames$Rows" "width" "I", Cond.arrayClass .int, Cond.fieldLink RX3 24 "OtherNames$Rows" "cells" "[I", Cond.fieldLink RX3 28 "OtherNames$Rows" "size" "I", Cond.methodLink RX4 18 yX0_init, Cond.instanceMethod yX0_init, Cond.code yX0_init cX0_init 1 none, Cond.methodLink RX0 3 objectInit, Cond.classLink RX0 9 RX3, Cond.fieldLink RX0 16 "OtherNames$Houses" "rows" "LOtherNames$Rows;", Cond.methodLink RX0 13 yX3_init, Cond.methodLink RX4 25 yX1_init]
def wsX4_init_r3 : List Cond := [Cond.instanceMethod yX1_init, Cond.code yX1_init cX1_init 2 none, Cond.methodLink RX1 3 objectInit, Cond.classLink RX1 9 RX3, Cond.fieldLink RX1 16 "OtherNames$Names" "rows" "LOtherNames$Rows;", Cond.fieldLink RX1 20 "OtherNames$Names" "people" "LOtherNames$People;", Cond.methodLink RX1 13 yX3_init, Cond.methodLink RX4 34 yX3_init]
def wsX4_init : List Cond := .code yX4_init cX4_init 1 none :: ((wsX4_init_r1 ++ (wsX4_init_r2 ++ wsX4_init_r3)) ++ wsX20 ++ wsX40 ++ wsX00 ++ wsX10 ++ wsX30)
def wsX4_person_r1 : List Cond := [Cond.fieldLink RX4 10 "OtherNames" "people" "LOtherNames$People;", Cond.methodLink RX4 48 yX2_add, Cond.instanceMethod yX2_add, Cond.selects RX2 yX2_add yX2_add, Cond.initialized RX2, Cond.code yX2_add cX2_add 6 (some .int), Cond.fieldLink RX2 16 "OtherNames$People" "rows" "LOtherNames$Rows;", Cond.methodLink RX2 28 yX2_isMarkNumber, Cond.static yX2_isMarkNumber, Cond.code yX2_isMarkNumber cX2_isMarkNumber 1 (some .boolean), Cond.methodLink RX2 31 yX3_addRow, Cond.instanceMethod yX3_addRow, Cond.selects RX3 yX3_addRow yX3_addRow, Cond.initialized RX3, Cond.code yX3_addRow cX3_addRow 1 (some .int), Cond.fieldLink RX3 28 "OtherNames$Rows" "size" "I", Cond.methodLink RX3 31 yX3_isFull, Cond.instanceMethod yX3_isFull, Cond.selects RX3 yX3_isFull yX3_isFull, Cond.code yX3_isFull cX3_isFull 1 (some .boolean), Cond.fieldLink RX3 15 "OtherNames$Rows" "most" "I", Cond.methodLink RX2 34 yX3_put, Cond.instanceMethod yX3_put, Cond.selects RX3 yX3_put yX3_put]
def wsX4_person_r2 : List Cond := [Cond.code yX3_put cX3_put 4 none, Cond.fieldLink RX3 24 "OtherNames$Rows" "cells" "[I", Cond.fieldLink RX3 21 "OtherNames$Rows" "width" "I", Cond.methodLink RX3 35 yX3_hasCell, Cond.instanceMethod yX3_hasCell, Cond.selects RX3 yX3_hasCell yX3_hasCell, Cond.code yX3_hasCell cX3_hasCell 3 (some .boolean)]
def wsX4_person : List Cond := .code yX4_person cX4_person 5 (some .int) :: ((wsX4_person_r1 ++ wsX4_person_r2) ++ wsX40 ++ wsX20 ++ wsX30)
def wsX4_mark_r1 : List Cond := [Cond.fieldLink RX4 10 "OtherNames" "people" "LOtherNames$People;", Cond.methodLink RX4 52 yX2_setMark, Cond.instanceMethod yX2_setMark, Cond.selects RX2 yX2_setMark yX2_setMark, Cond.initialized RX2, Cond.code yX2_setMark cX2_setMark 4 (some .boolean), Cond.fieldLink RX2 16 "OtherNames$People" "rows" "LOtherNames$Rows;", Cond.methodLink RX2 38 yX2_isThere, Cond.instanceMethod yX2_isThere, Cond.selects RX2 yX2_isThere yX2_isThere, Cond.code yX2_isThere cX2_isThere 2 (some .boolean), Cond.methodLink RX2 24 yX3_isThere, Cond.instanceMethod yX3_isThere, Cond.selects RX3 yX3_isThere yX3_isThere, Cond.initialized RX3, Cond.code yX3_isThere cX3_isThere 2 (some .boolean), Cond.fieldLink RX3 28 "OtherNames$Rows" "size" "I", Cond.methodLink RX2 39 yX2_isMark, Cond.static yX2_isMark, Cond.code yX2_isMark cX2_isMark 1 (some .boolean), Cond.methodLink RX2 28 yX2_isMarkNumber, Cond.static yX2_isMarkNumber, Cond.code yX2_isMarkNumber cX2_isMarkNumber 1 (some .boolean), Cond.methodLink RX2 34 yX3_put]
def wsX4_mark_r2 : List Cond := [Cond.instanceMethod yX3_put, Cond.selects RX3 yX3_put yX3_put, Cond.code yX3_put cX3_put 4 none, Cond.fieldLink RX3 24 "OtherNames$Rows" "cells" "[I", Cond.fieldLink RX3 21 "OtherNames$Rows" "width" "I", Cond.methodLink RX3 35 yX3_hasCell, Cond.instanceMethod yX3_hasCell, Cond.selects RX3 yX3_hasCell yX3_hasCell, Cond.code yX3_hasCell cX3_hasCell 3 (some .boolean)]
def wsX4_mark : List Cond := .code yX4_mark cX4_mark 4 (some .boolean) :: ((wsX4_mark_r1 ++ wsX4_mark_r2) ++ wsX40 ++ wsX20 ++ wsX30)
def wsX4_house_r1 : List Cond := [Cond.fieldLink RX4 19 "OtherNames" "houses" "LOtherNames$Houses;", Cond.methodLink RX4 56 yX0_add, Cond.instanceMethod yX0_add, Cond.selects RX0 yX0_add yX0_add, Cond.initialized RX0, Cond.code yX0_add cX0_add 7 (some .int), Cond.fieldLink RX0 16 "OtherNames$Houses" "rows" "LOtherNames$Rows;", Cond.methodLink RX0 28 yX3_addRow, Cond.instanceMethod yX3_addRow, Cond.selects RX3 yX3_addRow yX3_addRow, Cond.initialized RX3, Cond.code yX3_addRow cX3_addRow 1 (some .int), Cond.fieldLink RX3 28 "OtherNames$Rows" "size" "I", Cond.methodLink RX3 31 yX3_isFull, Cond.instanceMethod yX3_isFull, Cond.selects RX3 yX3_isFull yX3_isFull, Cond.code yX3_isFull cX3_isFull 1 (some .boolean), Cond.fieldLink RX3 15 "OtherNames$Rows" "most" "I", Cond.methodLink RX0 31 yX3_put, Cond.instanceMethod yX3_put, Cond.selects RX3 yX3_put yX3_put, Cond.code yX3_put cX3_put 4 none, Cond.fieldLink RX3 24 "OtherNames$Rows" "cells" "[I", Cond.fieldLink RX3 21 "OtherNames$Rows" "width" "I"]
def wsX4_house_r2 : List Cond := [Cond.methodLink RX3 35 yX3_hasCell, Cond.instanceMethod yX3_hasCell, Cond.selects RX3 yX3_hasCell yX3_hasCell, Cond.code yX3_hasCell cX3_hasCell 3 (some .boolean)]
def wsX4_house : List Cond := .code yX4_house cX4_house 6 (some .int) :: ((wsX4_house_r1 ++ wsX4_house_r2) ++ wsX40 ++ wsX00 ++ wsX30)
def wsX4_isDay : List Cond := .code yX4_isDay cX4_isDay 1 (some .boolean) :: ([])
def wsX4_day : List Cond := .code yX4_day cX4_day 2 (some .boolean) :: ([.fieldLink RX4 44 "OtherNames" "today" "I", .methodLink RX4 59 yX4_isDay, .static yX4_isDay, .initialized RX4, .code yX4_isDay cX4_isDay 1 (some .boolean)] ++ wsX40)
def wsX4_one_r1 : List Cond := [Cond.fieldLink RX4 10 "OtherNames" "people" "LOtherNames$People;", Cond.methodLink RX4 63 yX2_join, Cond.instanceMethod yX2_join, Cond.selects RX2 yX2_join yX2_join, Cond.initialized RX2, Cond.code yX2_join cX2_join 3 (some .boolean), Cond.fieldLink RX2 16 "OtherNames$People" "rows" "LOtherNames$Rows;", Cond.methodLink RX2 46 yX2_isHead, Cond.instanceMethod yX2_isHead, Cond.selects RX2 yX2_isHead yX2_isHead, Cond.code yX2_isHead cX2_isHead 2 (some .boolean), Cond.methodLink RX2 38 yX2_isThere, Cond.instanceMethod yX2_isThere, Cond.selects RX2 yX2_isThere yX2_isThere, Cond.code yX2_isThere cX2_isThere 2 (some .boolean), Cond.methodLink RX2 24 yX3_isThere, Cond.instanceMethod yX3_isThere, Cond.selects RX3 yX3_isThere yX3_isThere, Cond.initialized RX3, Cond.code yX3_isThere cX3_isThere 2 (some .boolean), Cond.fieldLink RX3 28 "OtherNames$Rows" "size" "I", Cond.methodLink RX2 56 yX2_holderOf, Cond.instanceMethod yX2_holderOf, Cond.selects RX2 yX2_holderOf yX2_holderOf]
def wsX4_one_r2 : List Cond := [Cond.code yX2_holderOf cX2_holderOf 2 (some .int), Cond.methodLink RX2 42 yX3_at, Cond.instanceMethod yX3_at, Cond.selects RX3 yX3_at yX3_at, Cond.code yX3_at cX3_at 3 (some .int), Cond.fieldLink RX3 24 "OtherNames$Rows" "cells" "[I", Cond.fieldLink RX3 21 "OtherNames$Rows" "width" "I", Cond.methodLink RX3 35 yX3_hasCell, Cond.instanceMethod yX3_hasCell, Cond.selects RX3 yX3_hasCell yX3_hasCell, Cond.code yX3_hasCell cX3_hasCell 3 (some .boolean), Cond.methodLink RX2 34 yX3_put, Cond.instanceMethod yX3_put, Cond.selects RX3 yX3_put yX3_put, Cond.code yX3_put cX3_put 4 none, Cond.methodLink RX2 49 yX2_isStruckOut, Cond.instanceMethod yX2_isStruckOut, Cond.selects RX2 yX2_isStruckOut yX2_isStruckOut, Cond.code yX2_isStruckOut cX2_isStruckOut 2 (some .boolean), Cond.methodLink RX2 52 yX2_strikeOutAllUnder, Cond.instanceMethod yX2_strikeOutAllUnder, Cond.selects RX2 yX2_strikeOutAllUnder yX2_strikeOutAllUnder, Cond.code yX2_strikeOutAllUnder cX2_strikeOutAllUnder 3 none, Cond.methodLink RX2 60 yX2_headOf]
def wsX4_one_r3 : List Cond := [Cond.instanceMethod yX2_headOf, Cond.selects RX2 yX2_headOf yX2_headOf, Cond.code yX2_headOf cX2_headOf 4 (some .int)]
def wsX4_one : List Cond := .code yX4_one cX4_one 3 (some .boolean) :: ((wsX4_one_r1 ++ (wsX4_one_r2 ++ wsX4_one_r3)) ++ wsX40 ++ wsX20 ++ wsX30)
def wsX4_part_r1 : List Cond := [Cond.fieldLink RX4 10 "OtherNames" "people" "LOtherNames$People;", Cond.methodLink RX4 67 yX2_leave, Cond.instanceMethod yX2_leave, Cond.selects RX2 yX2_leave yX2_leave, Cond.initialized RX2, Cond.code yX2_leave cX2_leave 2 (some .boolean), Cond.fieldLink RX2 16 "OtherNames$People" "rows" "LOtherNames$Rows;", Cond.methodLink RX2 56 yX2_holderOf, Cond.instanceMethod yX2_holderOf, Cond.selects RX2 yX2_holderOf yX2_holderOf, Cond.code yX2_holderOf cX2_holderOf 2 (some .int), Cond.methodLink RX2 42 yX3_at, Cond.instanceMethod yX3_at, Cond.selects RX3 yX3_at yX3_at, Cond.initialized RX3, Cond.code yX3_at cX3_at 3 (some .int), Cond.fieldLink RX3 24 "OtherNames$Rows" "cells" "[I", Cond.fieldLink RX3 21 "OtherNames$Rows" "width" "I", Cond.methodLink RX3 35 yX3_hasCell, Cond.instanceMethod yX3_hasCell, Cond.selects RX3 yX3_hasCell yX3_hasCell, Cond.code yX3_hasCell cX3_hasCell 3 (some .boolean), Cond.fieldLink RX3 28 "OtherNames$Rows" "size" "I", Cond.methodLink RX2 34 yX3_put]
def wsX4_part_r2 : List Cond := [Cond.instanceMethod yX3_put, Cond.selects RX3 yX3_put yX3_put, Cond.code yX3_put cX3_put 4 none]
def wsX4_part : List Cond := .code yX4_part cX4_part 2 (some .boolean) :: ((wsX4_part_r1 ++ wsX4_part_r2) ++ wsX40 ++ wsX20 ++ wsX30)
def wsX4_strike_r1 : List Cond := [Cond.fieldLink RX4 10 "OtherNames" "people" "LOtherNames$People;", Cond.methodLink RX4 70 yX2_strikeOut, Cond.instanceMethod yX2_strikeOut, Cond.selects RX2 yX2_strikeOut yX2_strikeOut, Cond.initialized RX2, Cond.code yX2_strikeOut cX2_strikeOut 2 (some .boolean), Cond.methodLink RX2 38 yX2_isThere, Cond.instanceMethod yX2_isThere, Cond.selects RX2 yX2_isThere yX2_isThere, Cond.code yX2_isThere cX2_isThere 2 (some .boolean), Cond.fieldLink RX2 16 "OtherNames$People" "rows" "LOtherNames$Rows;", Cond.methodLink RX2 24 yX3_isThere, Cond.instanceMethod yX3_isThere, Cond.selects RX3 yX3_isThere yX3_isThere, Cond.initialized RX3, Cond.code yX3_isThere cX3_isThere 2 (some .boolean), Cond.fieldLink RX3 28 "OtherNames$Rows" "size" "I", Cond.methodLink RX2 49 yX2_isStruckOut, Cond.instanceMethod yX2_isStruckOut, Cond.selects RX2 yX2_isStruckOut yX2_isStruckOut, Cond.code yX2_isStruckOut cX2_isStruckOut 2 (some .boolean), Cond.methodLink RX2 42 yX3_at, Cond.instanceMethod yX3_at, Cond.selects RX3 yX3_at yX3_at]
def wsX4_strike_r2 : List Cond := [Cond.code yX3_at cX3_at 3 (some .int), Cond.fieldLink RX3 24 "OtherNames$Rows" "cells" "[I", Cond.fieldLink RX3 21 "OtherNames$Rows" "width" "I", Cond.methodLink RX3 35 yX3_hasCell, Cond.instanceMethod yX3_hasCell, Cond.selects RX3 yX3_hasCell yX3_hasCell, Cond.code yX3_hasCell cX3_hasCell 3 (some .boolean), Cond.methodLink RX2 60 yX2_headOf, Cond.instanceMethod yX2_headOf, Cond.selects RX2 yX2_headOf yX2_headOf, Cond.code yX2_headOf cX2_headOf 4 (some .int), Cond.methodLink RX2 52 yX2_strikeOutAllUnder, Cond.instanceMethod yX2_strikeOutAllUnder, Cond.selects RX2 yX2_strikeOutAllUnder yX2_strikeOutAllUnder, Cond.code yX2_strikeOutAllUnder cX2_strikeOutAllUnder 3 none, Cond.methodLink RX2 34 yX3_put, Cond.instanceMethod yX3_put, Cond.selects RX3 yX3_put yX3_put, Cond.code yX3_put cX3_put 4 none]
def wsX4_strike : List Cond := .code yX4_strike cX4_strike 2 (some .boolean) :: ((wsX4_strike_r1 ++ wsX4_strike_r2) ++ wsX40 ++ wsX20 ++ wsX30)
def wsX4_nameIn_r1 : List Cond := [Cond.fieldLink RX4 28 "OtherNames" "names" "LOtherNames$Names;", Cond.fieldLink RX4 19 "OtherNames" "houses" "LOtherNames$Houses;", Cond.fieldLink RX4 44 "OtherNames" "today" "I", Cond.fieldLink RX4 10 "OtherNames" "people" "LOtherNames$People;", Cond.methodLink RX4 199 yX1_countGivenBy, Cond.instanceMethod yX1_countGivenBy, Cond.selects RX1 yX1_countGivenBy yX1_countGivenBy, Cond.initialized RX1, Cond.code yX1_countGivenBy cX1_countGivenBy 2 (some .int), Cond.methodLink RX1 58 yX1_countWith, Cond.instanceMethod yX1_countWith, Cond.selects RX1 yX1_countWith yX1_countWith, Cond.code yX1_countWith cX1_countWith 5 (some .int), Cond.fieldLink RX1 16 "OtherNames$Names" "rows" "LOtherNames$Rows;", Cond.methodLink RX1 24 yX3_size, Cond.instanceMethod yX3_size, Cond.selects RX3 yX3_size yX3_size, Cond.initialized RX3, Cond.code yX3_size cX3_size 1 (some .int), Cond.fieldLink RX3 28 "OtherNames$Rows" "size" "I", Cond.methodLink RX1 28 yX3_at, Cond.instanceMethod yX3_at, Cond.selects RX3 yX3_at yX3_at, Cond.code yX3_at cX3_at 3 (some .int)]
def wsX4_nameIn_r2 : List Cond := [Cond.fieldLink RX3 24 "OtherNames$Rows" "cells" "[I", Cond.fieldLink RX3 21 "OtherNames$Rows" "width" "I", Cond.methodLink RX3 35 yX3_hasCell, Cond.instanceMethod yX3_hasCell, Cond.selects RX3 yX3_hasCell yX3_hasCell, Cond.code yX3_hasCell cX3_hasCell 3 (some .boolean), Cond.methodLink RX4 202 yX0_spanNumber, Cond.instanceMethod yX0_spanNumber, Cond.selects RX0 yX0_spanNumber yX0_spanNumber, Cond.initialized RX0, Cond.code yX0_spanNumber cX0_spanNumber 5 (some .int), Cond.fieldLink RX0 16 "OtherNames$Houses" "rows" "LOtherNames$Rows;", Cond.methodLink RX0 35 yX3_at, Cond.methodLink RX0 43 yX0_isSpanned, Cond.instanceMethod yX0_isSpanned, Cond.selects RX0 yX0_isSpanned yX0_isSpanned, Cond.code yX0_isSpanned cX0_isSpanned 2 (some .boolean), Cond.methodLink RX4 178 yX2_headOf, Cond.instanceMethod yX2_headOf, Cond.selects RX2 yX2_headOf yX2_headOf, Cond.initialized RX2, Cond.code yX2_headOf cX2_headOf 4 (some .int), Cond.fieldLink RX2 16 "OtherNames$People" "rows" "LOtherNames$Rows;", Cond.methodLink RX2 42 yX3_at]
def wsX4_nameIn_r3 : List Cond := [Cond.methodLink RX4 205 yX1_firstFor, Cond.instanceMethod yX1_firstFor, Cond.selects RX1 yX1_firstFor yX1_firstFor, Cond.code yX1_firstFor cX1_firstFor 6 (some .int), Cond.fieldLink RX1 20 "OtherNames$Names" "people" "LOtherNames$People;", Cond.methodLink RX1 43 yX1_spanNumberAt, Cond.instanceMethod yX1_spanNumberAt, Cond.selects RX1 yX1_spanNumberAt yX1_spanNumberAt, Cond.code yX1_spanNumberAt cX1_spanNumberAt 2 (some .int), Cond.methodLink RX1 46 yX1_ownerAt, Cond.instanceMethod yX1_ownerAt, Cond.selects RX1 yX1_ownerAt yX1_ownerAt, Cond.code yX1_ownerAt cX1_ownerAt 2 (some .int), Cond.methodLink RX1 49 yX2_headOf, Cond.methodLink RX4 208 yX0_nameNumber, Cond.instanceMethod yX0_nameNumber, Cond.selects RX0 yX0_nameNumber yX0_nameNumber, Cond.code yX0_nameNumber cX0_nameNumber 3 (some .int), Cond.methodLink RX0 39 yX0_seedOf, Cond.instanceMethod yX0_seedOf, Cond.selects RX0 yX0_seedOf yX0_seedOf, Cond.code yX0_seedOf cX0_seedOf 2 (some .int), Cond.methodLink RX4 211 yX1_add, Cond.instanceMethod yX1_add]
def wsX4_nameIn_r4 : List Cond := [Cond.selects RX1 yX1_add yX1_add, Cond.code yX1_add cX1_add 7 (some .int), Cond.methodLink RX1 32 yX3_addRow, Cond.instanceMethod yX3_addRow, Cond.selects RX3 yX3_addRow yX3_addRow, Cond.code yX3_addRow cX3_addRow 1 (some .int), Cond.methodLink RX3 31 yX3_isFull, Cond.instanceMethod yX3_isFull, Cond.selects RX3 yX3_isFull yX3_isFull, Cond.code yX3_isFull cX3_isFull 1 (some .boolean), Cond.fieldLink RX3 15 "OtherNames$Rows" "most" "I", Cond.methodLink RX1 35 yX3_put, Cond.instanceMethod yX3_put, Cond.selects RX3 yX3_put yX3_put, Cond.code yX3_put cX3_put 4 none, Cond.methodLink RX4 91 yX1_nameAt, Cond.instanceMethod yX1_nameAt, Cond.selects RX1 yX1_nameAt yX1_nameAt, Cond.code yX1_nameAt cX1_nameAt 2 (some .int)]
def wsX4_nameIn : List Cond := .code yX4_nameIn cX4_nameIn 7 (some .int) :: ((wsX4_nameIn_r1 ++ (wsX4_nameIn_r2 ++ (wsX4_nameIn_r3 ++ wsX4_nameIn_r4))) ++ wsX40 ++ wsX10 ++ wsX30 ++ wsX00 ++ wsX20)
def wsX4_name_r1 : List Cond := [Cond.fieldLink RX4 19 "OtherNames" "houses" "LOtherNames$Houses;", Cond.fieldLink RX4 10 "OtherNames" "people" "LOtherNames$People;", Cond.methodLink RX4 73 yX0_isThere, Cond.instanceMethod yX0_isThere, Cond.selects RX0 yX0_isThere yX0_isThere, Cond.initialized RX0, Cond.code yX0_isThere cX0_isThere 2 (some .boolean), Cond.fieldLink RX0 16 "OtherNames$Houses" "rows" "LOtherNames$Rows;", Cond.methodLink RX0 24 yX3_isThere, Cond.instanceMethod yX3_isThere, Cond.selects RX3 yX3_isThere yX3_isThere, Cond.initialized RX3, Cond.code yX3_isThere cX3_isThere 2 (some .boolean), Cond.fieldLink RX3 28 "OtherNames$Rows" "size" "I", Cond.methodLink RX4 76 yX2_isThere, Cond.instanceMethod yX2_isThere, Cond.selects RX2 yX2_isThere yX2_isThere, Cond.initialized RX2, Cond.code yX2_isThere cX2_isThere 2 (some .boolean), Cond.fieldLink RX2 16 "OtherNames$People" "rows" "LOtherNames$Rows;", Cond.methodLink RX2 24 yX3_isThere, Cond.methodLink RX4 77 yX2_isStruckOut, Cond.instanceMethod yX2_isStruckOut, Cond.selects RX2 yX2_isStruckOut yX2_isStruckOut]
def wsX4_name_r2 : List Cond := [Cond.code yX2_isStruckOut cX2_isStruckOut 2 (some .boolean), Cond.methodLink RX2 42 yX3_at, Cond.instanceMethod yX3_at, Cond.selects RX3 yX3_at yX3_at, Cond.code yX3_at cX3_at 3 (some .int), Cond.fieldLink RX3 24 "OtherNames$Rows" "cells" "[I", Cond.fieldLink RX3 21 "OtherNames$Rows" "width" "I", Cond.methodLink RX3 35 yX3_hasCell, Cond.instanceMethod yX3_hasCell, Cond.selects RX3 yX3_hasCell yX3_hasCell, Cond.code yX3_hasCell cX3_hasCell 3 (some .boolean), Cond.methodLink RX4 80 yX4_nameIn, Cond.instanceMethod yX4_nameIn, Cond.selects RX4 yX4_nameIn yX4_nameIn, Cond.initialized RX4, Cond.code yX4_nameIn cX4_nameIn 7 (some .int), Cond.fieldLink RX4 28 "OtherNames" "names" "LOtherNames$Names;", Cond.fieldLink RX4 44 "OtherNames" "today" "I", Cond.methodLink RX4 199 yX1_countGivenBy, Cond.instanceMethod yX1_countGivenBy, Cond.selects RX1 yX1_countGivenBy yX1_countGivenBy, Cond.initialized RX1, Cond.code yX1_countGivenBy cX1_countGivenBy 2 (some .int), Cond.methodLink RX1 58 yX1_countWith]
def wsX4_name_r3 : List Cond := [Cond.instanceMethod yX1_countWith, Cond.selects RX1 yX1_countWith yX1_countWith, Cond.code yX1_countWith cX1_countWith 5 (some .int), Cond.fieldLink RX1 16 "OtherNames$Names" "rows" "LOtherNames$Rows;", Cond.methodLink RX1 24 yX3_size, Cond.instanceMethod yX3_size, Cond.selects RX3 yX3_size yX3_size, Cond.code yX3_size cX3_size 1 (some .int), Cond.methodLink RX1 28 yX3_at, Cond.methodLink RX4 202 yX0_spanNumber, Cond.instanceMethod yX0_spanNumber, Cond.selects RX0 yX0_spanNumber yX0_spanNumber, Cond.code yX0_spanNumber cX0_spanNumber 5 (some .int), Cond.methodLink RX0 35 yX3_at, Cond.methodLink RX0 43 yX0_isSpanned, Cond.instanceMethod yX0_isSpanned, Cond.selects RX0 yX0_isSpanned yX0_isSpanned, Cond.code yX0_isSpanned cX0_isSpanned 2 (some .boolean), Cond.methodLink RX4 178 yX2_headOf, Cond.instanceMethod yX2_headOf, Cond.selects RX2 yX2_headOf yX2_headOf, Cond.code yX2_headOf cX2_headOf 4 (some .int), Cond.methodLink RX4 205 yX1_firstFor, Cond.instanceMethod yX1_firstFor]
def wsX4_name_r4 : List Cond := [Cond.selects RX1 yX1_firstFor yX1_firstFor, Cond.code yX1_firstFor cX1_firstFor 6 (some .int), Cond.fieldLink RX1 20 "OtherNames$Names" "people" "LOtherNames$People;", Cond.methodLink RX1 43 yX1_spanNumberAt, Cond.instanceMethod yX1_spanNumberAt, Cond.selects RX1 yX1_spanNumberAt yX1_spanNumberAt, Cond.code yX1_spanNumberAt cX1_spanNumberAt 2 (some .int), Cond.methodLink RX1 46 yX1_ownerAt, Cond.instanceMethod yX1_ownerAt, Cond.selects RX1 yX1_ownerAt yX1_ownerAt, Cond.code yX1_ownerAt cX1_ownerAt 2 (some .int), Cond.methodLink RX1 49 yX2_headOf, Cond.methodLink RX4 208 yX0_nameNumber, Cond.instanceMethod yX0_nameNumber, Cond.selects RX0 yX0_nameNumber yX0_nameNumber, Cond.code yX0_nameNumber cX0_nameNumber 3 (some .int), Cond.methodLink RX0 39 yX0_seedOf, Cond.instanceMethod yX0_seedOf, Cond.selects RX0 yX0_seedOf yX0_seedOf, Cond.code yX0_seedOf cX0_seedOf 2 (some .int), Cond.methodLink RX4 211 yX1_add, Cond.instanceMethod yX1_add, Cond.selects RX1 yX1_add yX1_add, Cond.code yX1_add cX1_add 7 (some .int)]
def wsX4_name_r5 : List Cond := [Cond.methodLink RX1 32 yX3_addRow, Cond.instanceMethod yX3_addRow, Cond.selects RX3 yX3_addRow yX3_addRow, Cond.code yX3_addRow cX3_addRow 1 (some .int), Cond.methodLink RX3 31 yX3_isFull, Cond.instanceMethod yX3_isFull, Cond.selects RX3 yX3_isFull yX3_isFull, Cond.code yX3_isFull cX3_isFull 1 (some .boolean), Cond.fieldLink RX3 15 "OtherNames$Rows" "most" "I", Cond.methodLink RX1 35 yX3_put, Cond.instanceMethod yX3_put, Cond.selects RX3 yX3_put yX3_put, Cond.code yX3_put cX3_put 4 none, Cond.methodLink RX4 91 yX1_nameAt, Cond.instanceMethod yX1_nameAt, Cond.selects RX1 yX1_nameAt yX1_nameAt, Cond.code yX1_nameAt cX1_nameAt 2 (some .int)]
def wsX4_name : List Cond := .code yX4_name cX4_name 3 (some .int) :: ((wsX4_name_r1 ++ (wsX4_name_r2 ++ (wsX4_name_r3 ++ (wsX4_name_r4 ++ wsX4_name_r5)))) ++ wsX40 ++ wsX00 ++ wsX30 ++ wsX20 ++ wsX10)
def wsX4_leads_r1 : List Cond := [Cond.fieldLink RX4 28 "OtherNames" "names" "LOtherNames$Names;", Cond.methodLink RX4 84 yX1_find, Cond.instanceMethod yX1_find, Cond.selects RX1 yX1_find yX1_find, Cond.initialized RX1, Cond.code yX1_find cX1_find 4 (some .int), Cond.fieldLink RX1 16 "OtherNames$Names" "rows" "LOtherNames$Rows;", Cond.methodLink RX1 24 yX3_size, Cond.instanceMethod yX3_size, Cond.selects RX3 yX3_size yX3_size, Cond.initialized RX3, Cond.code yX3_size cX3_size 1 (some .int), Cond.fieldLink RX3 28 "OtherNames$Rows" "size" "I", Cond.methodLink RX1 28 yX3_at, Cond.instanceMethod yX3_at, Cond.selects RX3 yX3_at yX3_at, Cond.code yX3_at cX3_at 3 (some .int), Cond.fieldLink RX3 24 "OtherNames$Rows" "cells" "[I", Cond.fieldLink RX3 21 "OtherNames$Rows" "width" "I", Cond.methodLink RX3 35 yX3_hasCell, Cond.instanceMethod yX3_hasCell, Cond.selects RX3 yX3_hasCell yX3_hasCell, Cond.code yX3_hasCell cX3_hasCell 3 (some .boolean), Cond.methodLink RX1 39 yX1_nameAt]
def wsX4_leads_r2 : List Cond := [Cond.instanceMethod yX1_nameAt, Cond.selects RX1 yX1_nameAt yX1_nameAt, Cond.code yX1_nameAt cX1_nameAt 2 (some .int), Cond.methodLink RX4 87 yX1_leadsTo, Cond.instanceMethod yX1_leadsTo, Cond.selects RX1 yX1_leadsTo yX1_leadsTo, Cond.code yX1_leadsTo cX1_leadsTo 2 (some .int), Cond.fieldLink RX1 20 "OtherNames$Names" "people" "LOtherNames$People;", Cond.methodLink RX1 43 yX1_spanNumberAt, Cond.instanceMethod yX1_spanNumberAt, Cond.selects RX1 yX1_spanNumberAt yX1_spanNumberAt, Cond.code yX1_spanNumberAt cX1_spanNumberAt 2 (some .int), Cond.methodLink RX1 46 yX1_ownerAt, Cond.instanceMethod yX1_ownerAt, Cond.selects RX1 yX1_ownerAt yX1_ownerAt, Cond.code yX1_ownerAt cX1_ownerAt 2 (some .int), Cond.methodLink RX1 49 yX2_headOf, Cond.instanceMethod yX2_headOf, Cond.selects RX2 yX2_headOf yX2_headOf, Cond.initialized RX2, Cond.code yX2_headOf cX2_headOf 4 (some .int), Cond.fieldLink RX2 16 "OtherNames$People" "rows" "LOtherNames$Rows;", Cond.methodLink RX2 42 yX3_at, Cond.methodLink RX1 54 yX1_firstFor]
def wsX4_leads_r3 : List Cond := [Cond.instanceMethod yX1_firstFor, Cond.selects RX1 yX1_firstFor yX1_firstFor, Cond.code yX1_firstFor cX1_firstFor 6 (some .int), Cond.methodLink RX4 91 yX1_nameAt]
def wsX4_leads : List Cond := .code yX4_leads cX4_leads 4 (some .int) :: ((wsX4_leads_r1 ++ (wsX4_leads_r2 ++ wsX4_leads_r3)) ++ wsX40 ++ wsX10 ++ wsX30 ++ wsX20)
def wsX4_areTwoHouses : List Cond := .code yX4_areTwoHouses cX4_areTwoHouses 3 (some .boolean) :: ([.fieldLink RX4 19 "OtherNames" "houses" "LOtherNames$Houses;", .methodLink RX4 73 yX0_isThere, .instanceMethod yX0_isThere, .selects RX0 yX0_isThere yX0_isThere, .initialized RX0, .code yX0_isThere cX0_isThere 2 (some .boolean), .fieldLink RX0 16 "OtherNames$Houses" "rows" "LOtherNames$Rows;", .methodLink RX0 24 yX3_isThere, .instanceMethod yX3_isThere, .selects RX3 yX3_isThere yX3_isThere, .initialized RX3, .code yX3_isThere cX3_isThere 2 (some .boolean), .fieldLink RX3 28 "OtherNames$Rows" "size" "I"] ++ wsX40 ++ wsX00 ++ wsX30)
def wsX4_bridge_r1 : List Cond := [Cond.fieldLink RX4 37 "OtherNames" "bridges" "LOtherNames$Rows;", Cond.methodLink RX4 94 yX4_areTwoHouses, Cond.instanceMethod yX4_areTwoHouses, Cond.selects RX4 yX4_areTwoHouses yX4_areTwoHouses, Cond.initialized RX4, Cond.code yX4_areTwoHouses cX4_areTwoHouses 3 (some .boolean), Cond.fieldLink RX4 19 "OtherNames" "houses" "LOtherNames$Houses;", Cond.methodLink RX4 73 yX0_isThere, Cond.instanceMethod yX0_isThere, Cond.selects RX0 yX0_isThere yX0_isThere, Cond.initialized RX0, Cond.code yX0_isThere cX0_isThere 2 (some .boolean), Cond.fieldLink RX0 16 "OtherNames$Houses" "rows" "LOtherNames$Rows;", Cond.methodLink RX0 24 yX3_isThere, Cond.instanceMethod yX3_isThere, Cond.selects RX3 yX3_isThere yX3_isThere, Cond.initialized RX3, Cond.code yX3_isThere cX3_isThere 2 (some .boolean), Cond.fieldLink RX3 28 "OtherNames$Rows" "size" "I", Cond.methodLink RX4 59 yX4_isDay, Cond.static yX4_isDay, Cond.code yX4_isDay cX4_isDay 1 (some .boolean), Cond.methodLink RX4 97 yX3_addRow, Cond.instanceMethod yX3_addRow]
def wsX4_bridge_r2 : List Cond := [Cond.selects RX3 yX3_addRow yX3_addRow, Cond.code yX3_addRow cX3_addRow 1 (some .int), Cond.methodLink RX3 31 yX3_isFull, Cond.instanceMethod yX3_isFull, Cond.selects RX3 yX3_isFull yX3_isFull, Cond.code yX3_isFull cX3_isFull 1 (some .boolean), Cond.fieldLink RX3 15 "OtherNames$Rows" "most" "I", Cond.methodLink RX4 101 yX3_put, Cond.instanceMethod yX3_put, Cond.selects RX3 yX3_put yX3_put, Cond.code yX3_put cX3_put 4 none, Cond.fieldLink RX3 24 "OtherNames$Rows" "cells" "[I", Cond.fieldLink RX3 21 "OtherNames$Rows" "width" "I", Cond.methodLink RX3 35 yX3_hasCell, Cond.instanceMethod yX3_hasCell, Cond.selects RX3 yX3_hasCell yX3_hasCell, Cond.code yX3_hasCell cX3_hasCell 3 (some .boolean)]
def wsX4_bridge : List Cond := .code yX4_bridge cX4_bridge 6 (some .boolean) :: ((wsX4_bridge_r1 ++ wsX4_bridge_r2) ++ wsX40 ++ wsX00 ++ wsX30)
def wsX4_isBridged : List Cond := .code yX4_isBridged cX4_isBridged 6 (some .boolean) :: ([.fieldLink RX4 37 "OtherNames" "bridges" "LOtherNames$Rows;", .methodLink RX4 195 yX3_size, .instanceMethod yX3_size, .selects RX3 yX3_size yX3_size, .initialized RX3, .code yX3_size cX3_size 1 (some .int), .fieldLink RX3 28 "OtherNames$Rows" "size" "I", .methodLink RX4 172 yX3_at, .instanceMethod yX3_at, .selects RX3 yX3_at yX3_at, .code yX3_at cX3_at 3 (some .int), .fieldLink RX3 24 "OtherNames$Rows" "cells" "[I", .fieldLink RX3 21 "OtherNames$Rows" "width" "I", .methodLink RX3 35 yX3_hasCell, .instanceMethod yX3_hasCell, .selects RX3 yX3_hasCell yX3_hasCell, .code yX3_hasCell cX3_hasCell 3 (some .boolean)] ++ wsX40 ++ wsX30)
def wsX4_oneIf : List Cond := .code yX4_oneIf cX4_oneIf 1 (some .int) :: ([])
def wsX4_holds_r1 : List Cond := [Cond.methodLink RX4 94 yX4_areTwoHouses, Cond.instanceMethod yX4_areTwoHouses, Cond.selects RX4 yX4_areTwoHouses yX4_areTwoHouses, Cond.initialized RX4, Cond.code yX4_areTwoHouses cX4_areTwoHouses 3 (some .boolean), Cond.fieldLink RX4 19 "OtherNames" "houses" "LOtherNames$Houses;", Cond.methodLink RX4 73 yX0_isThere, Cond.instanceMethod yX0_isThere, Cond.selects RX0 yX0_isThere yX0_isThere, Cond.initialized RX0, Cond.code yX0_isThere cX0_isThere 2 (some .boolean), Cond.fieldLink RX0 16 "OtherNames$Houses" "rows" "LOtherNames$Rows;", Cond.methodLink RX0 24 yX3_isThere, Cond.instanceMethod yX3_isThere, Cond.selects RX3 yX3_isThere yX3_isThere, Cond.initialized RX3, Cond.code yX3_isThere cX3_isThere 2 (some .boolean), Cond.fieldLink RX3 28 "OtherNames$Rows" "size" "I", Cond.methodLink RX4 59 yX4_isDay, Cond.static yX4_isDay, Cond.code yX4_isDay cX4_isDay 1 (some .boolean), Cond.methodLink RX4 105 yX4_isBridged, Cond.instanceMethod yX4_isBridged, Cond.selects RX4 yX4_isBridged yX4_isBridged]
def wsX4_holds_r2 : List Cond := [Cond.code yX4_isBridged cX4_isBridged 6 (some .boolean), Cond.fieldLink RX4 37 "OtherNames" "bridges" "LOtherNames$Rows;", Cond.methodLink RX4 195 yX3_size, Cond.instanceMethod yX3_size, Cond.selects RX3 yX3_size yX3_size, Cond.code yX3_size cX3_size 1 (some .int), Cond.methodLink RX4 172 yX3_at, Cond.instanceMethod yX3_at, Cond.selects RX3 yX3_at yX3_at, Cond.code yX3_at cX3_at 3 (some .int), Cond.fieldLink RX3 24 "OtherNames$Rows" "cells" "[I", Cond.fieldLink RX3 21 "OtherNames$Rows" "width" "I", Cond.methodLink RX3 35 yX3_hasCell, Cond.instanceMethod yX3_hasCell, Cond.selects RX3 yX3_hasCell yX3_hasCell, Cond.code yX3_hasCell cX3_hasCell 3 (some .boolean), Cond.methodLink RX4 108 yX4_oneIf, Cond.static yX4_oneIf, Cond.code yX4_oneIf cX4_oneIf 1 (some .int)]
def wsX4_holds : List Cond := .code yX4_holds cX4_holds 4 (some .int) :: ((wsX4_holds_r1 ++ wsX4_holds_r2) ++ wsX40 ++ wsX00 ++ wsX30)
def wsX4_isHand : List Cond := .code yX4_isHand cX4_isHand 1 (some .boolean) :: ([])
def wsX4_crossWith_r1 : List Cond := [Cond.fieldLink RX4 28 "OtherNames" "names" "LOtherNames$Names;", Cond.fieldLink RX4 19 "OtherNames" "houses" "LOtherNames$Houses;", Cond.fieldLink RX4 44 "OtherNames" "today" "I", Cond.fieldLink RX4 10 "OtherNames" "people" "LOtherNames$People;", Cond.methodLink RX4 84 yX1_find, Cond.instanceMethod yX1_find, Cond.selects RX1 yX1_find yX1_find, Cond.initialized RX1, Cond.code yX1_find cX1_find 4 (some .int), Cond.fieldLink RX1 16 "OtherNames$Names" "rows" "LOtherNames$Rows;", Cond.methodLink RX1 24 yX3_size, Cond.instanceMethod yX3_size, Cond.selects RX3 yX3_size yX3_size, Cond.initialized RX3, Cond.code yX3_size cX3_size 1 (some .int), Cond.fieldLink RX3 28 "OtherNames$Rows" "size" "I", Cond.methodLink RX1 28 yX3_at, Cond.instanceMethod yX3_at, Cond.selects RX3 yX3_at yX3_at, Cond.code yX3_at cX3_at 3 (some .int), Cond.fieldLink RX3 24 "OtherNames$Rows" "cells" "[I", Cond.fieldLink RX3 21 "OtherNames$Rows" "width" "I", Cond.methodLink RX3 35 yX3_hasCell, Cond.instanceMethod yX3_hasCell]
def wsX4_crossWith_r2 : List Cond := [Cond.selects RX3 yX3_hasCell yX3_hasCell, Cond.code yX3_hasCell cX3_hasCell 3 (some .boolean), Cond.methodLink RX1 39 yX1_nameAt, Cond.instanceMethod yX1_nameAt, Cond.selects RX1 yX1_nameAt yX1_nameAt, Cond.code yX1_nameAt cX1_nameAt 2 (some .int), Cond.methodLink RX4 133 yX0_isLost, Cond.instanceMethod yX0_isLost, Cond.selects RX0 yX0_isLost yX0_isLost, Cond.initialized RX0, Cond.code yX0_isLost cX0_isLost 2 (some .boolean), Cond.fieldLink RX0 16 "OtherNames$Houses" "rows" "LOtherNames$Rows;", Cond.methodLink RX0 35 yX3_at, Cond.methodLink RX4 105 yX4_isBridged, Cond.instanceMethod yX4_isBridged, Cond.selects RX4 yX4_isBridged yX4_isBridged, Cond.initialized RX4, Cond.code yX4_isBridged cX4_isBridged 6 (some .boolean), Cond.fieldLink RX4 37 "OtherNames" "bridges" "LOtherNames$Rows;", Cond.methodLink RX4 195 yX3_size, Cond.methodLink RX4 172 yX3_at, Cond.methodLink RX4 212 yX1_ownerAt, Cond.instanceMethod yX1_ownerAt, Cond.selects RX1 yX1_ownerAt yX1_ownerAt]
def wsX4_crossWith_r3 : List Cond := [Cond.code yX1_ownerAt cX1_ownerAt 2 (some .int), Cond.methodLink RX4 215 yX0_isSpanned, Cond.instanceMethod yX0_isSpanned, Cond.selects RX0 yX0_isSpanned yX0_isSpanned, Cond.code yX0_isSpanned cX0_isSpanned 2 (some .boolean), Cond.methodLink RX4 218 yX1_spanNumberAt, Cond.instanceMethod yX1_spanNumberAt, Cond.selects RX1 yX1_spanNumberAt yX1_spanNumberAt, Cond.code yX1_spanNumberAt cX1_spanNumberAt 2 (some .int), Cond.methodLink RX4 202 yX0_spanNumber, Cond.instanceMethod yX0_spanNumber, Cond.selects RX0 yX0_spanNumber yX0_spanNumber, Cond.code yX0_spanNumber cX0_spanNumber 5 (some .int), Cond.methodLink RX0 43 yX0_isSpanned, Cond.methodLink RX4 77 yX2_isStruckOut, Cond.instanceMethod yX2_isStruckOut, Cond.selects RX2 yX2_isStruckOut yX2_isStruckOut, Cond.initialized RX2, Cond.code yX2_isStruckOut cX2_isStruckOut 2 (some .boolean), Cond.fieldLink RX2 16 "OtherNames$People" "rows" "LOtherNames$Rows;", Cond.methodLink RX2 42 yX3_at, Cond.methodLink RX4 80 yX4_nameIn, Cond.instanceMethod yX4_nameIn, Cond.selects RX4 yX4_nameIn yX4_nameIn]
def wsX4_crossWith_r4 : List Cond := [Cond.code yX4_nameIn cX4_nameIn 7 (some .int), Cond.methodLink RX4 199 yX1_countGivenBy, Cond.instanceMethod yX1_countGivenBy, Cond.selects RX1 yX1_countGivenBy yX1_countGivenBy, Cond.code yX1_countGivenBy cX1_countGivenBy 2 (some .int), Cond.methodLink RX1 58 yX1_countWith, Cond.instanceMethod yX1_countWith, Cond.selects RX1 yX1_countWith yX1_countWith, Cond.code yX1_countWith cX1_countWith 5 (some .int), Cond.methodLink RX4 178 yX2_headOf, Cond.instanceMethod yX2_headOf, Cond.selects RX2 yX2_headOf yX2_headOf, Cond.code yX2_headOf cX2_headOf 4 (some .int), Cond.methodLink RX4 205 yX1_firstFor, Cond.instanceMethod yX1_firstFor, Cond.selects RX1 yX1_firstFor yX1_firstFor, Cond.code yX1_firstFor cX1_firstFor 6 (some .int), Cond.fieldLink RX1 20 "OtherNames$Names" "people" "LOtherNames$People;", Cond.methodLink RX1 43 yX1_spanNumberAt, Cond.methodLink RX1 46 yX1_ownerAt, Cond.methodLink RX1 49 yX2_headOf, Cond.methodLink RX4 208 yX0_nameNumber, Cond.instanceMethod yX0_nameNumber, Cond.selects RX0 yX0_nameNumber yX0_nameNumber]
def wsX4_crossWith_r5 : List Cond := [Cond.code yX0_nameNumber cX0_nameNumber 3 (some .int), Cond.methodLink RX0 39 yX0_seedOf, Cond.instanceMethod yX0_seedOf, Cond.selects RX0 yX0_seedOf yX0_seedOf, Cond.code yX0_seedOf cX0_seedOf 2 (some .int), Cond.methodLink RX4 211 yX1_add, Cond.instanceMethod yX1_add, Cond.selects RX1 yX1_add yX1_add, Cond.code yX1_add cX1_add 7 (some .int), Cond.methodLink RX1 32 yX3_addRow, Cond.instanceMethod yX3_addRow, Cond.selects RX3 yX3_addRow yX3_addRow, Cond.code yX3_addRow cX3_addRow 1 (some .int), Cond.methodLink RX3 31 yX3_isFull, Cond.instanceMethod yX3_isFull, Cond.selects RX3 yX3_isFull yX3_isFull, Cond.code yX3_isFull cX3_isFull 1 (some .boolean), Cond.fieldLink RX3 15 "OtherNames$Rows" "most" "I", Cond.methodLink RX1 35 yX3_put, Cond.instanceMethod yX3_put, Cond.selects RX3 yX3_put yX3_put, Cond.code yX3_put cX3_put 4 none, Cond.methodLink RX4 91 yX1_nameAt]
def wsX4_crossWith : List Cond := .code yX4_crossWith cX4_crossWith 7 (some .int) :: ((wsX4_crossWith_r1 ++ (wsX4_crossWith_r2 ++ (wsX4_crossWith_r3 ++ (wsX4_crossWith_r4 ++ wsX4_crossWith_r5)))) ++ wsX40 ++ wsX10 ++ wsX30 ++ wsX00 ++ wsX20)
def wsX4_enter : List Cond := .code yX4_enter cX4_enter 7 none :: ([.fieldLink RX4 41 "OtherNames" "entries" "LOtherNames$Rows;", .fieldLink RX4 44 "OtherNames" "today" "I", .methodLink RX4 97 yX3_addRow, .instanceMethod yX3_addRow, .selects RX3 yX3_addRow yX3_addRow, .initialized RX3, .code yX3_addRow cX3_addRow 1 (some .int), .fieldLink RX3 28 "OtherNames$Rows" "size" "I", .methodLink RX3 31 yX3_isFull, .instanceMethod yX3_isFull, .selects RX3 yX3_isFull yX3_isFull, .code yX3_isFull cX3_isFull 1 (some .boolean), .fieldLink RX3 15 "OtherNames$Rows" "most" "I", .methodLink RX4 101 yX3_put, .instanceMethod yX3_put, .selects RX3 yX3_put yX3_put, .code yX3_put cX3_put 4 none, .fieldLink RX3 24 "OtherNames$Rows" "cells" "[I", .fieldLink RX3 21 "OtherNames$Rows" "width" "I", .methodLink RX3 35 yX3_hasCell, .instanceMethod yX3_hasCell, .selects RX3 yX3_hasCell yX3_hasCell, .code yX3_hasCell cX3_hasCell 3 (some .boolean)] ++ wsX40 ++ wsX30)
def wsX4_cross_r1 : List Cond := [Cond.fieldLink RX4 19 "OtherNames" "houses" "LOtherNames$Houses;", Cond.fieldLink RX4 41 "OtherNames" "entries" "LOtherNames$Rows;", Cond.methodLink RX4 73 yX0_isThere, Cond.instanceMethod yX0_isThere, Cond.selects RX0 yX0_isThere yX0_isThere, Cond.initialized RX0, Cond.code yX0_isThere cX0_isThere 2 (some .boolean), Cond.fieldLink RX0 16 "OtherNames$Houses" "rows" "LOtherNames$Rows;", Cond.methodLink RX0 24 yX3_isThere, Cond.instanceMethod yX3_isThere, Cond.selects RX3 yX3_isThere yX3_isThere, Cond.initialized RX3, Cond.code yX3_isThere cX3_isThere 2 (some .boolean), Cond.fieldLink RX3 28 "OtherNames$Rows" "size" "I", Cond.methodLink RX4 112 yX4_isHand, Cond.static yX4_isHand, Cond.initialized RX4, Cond.code yX4_isHand cX4_isHand 1 (some .boolean), Cond.methodLink RX4 115 yX3_isFull, Cond.instanceMethod yX3_isFull, Cond.selects RX3 yX3_isFull yX3_isFull, Cond.code yX3_isFull cX3_isFull 1 (some .boolean), Cond.fieldLink RX3 15 "OtherNames$Rows" "most" "I", Cond.methodLink RX4 119 yX4_crossWith]
def wsX4_cross_r2 : List Cond := [Cond.instanceMethod yX4_crossWith, Cond.selects RX4 yX4_crossWith yX4_crossWith, Cond.code yX4_crossWith cX4_crossWith 7 (some .int), Cond.fieldLink RX4 28 "OtherNames" "names" "LOtherNames$Names;", Cond.fieldLink RX4 44 "OtherNames" "today" "I", Cond.fieldLink RX4 10 "OtherNames" "people" "LOtherNames$People;", Cond.methodLink RX4 84 yX1_find, Cond.instanceMethod yX1_find, Cond.selects RX1 yX1_find yX1_find, Cond.initialized RX1, Cond.code yX1_find cX1_find 4 (some .int), Cond.fieldLink RX1 16 "OtherNames$Names" "rows" "LOtherNames$Rows;", Cond.methodLink RX1 24 yX3_size, Cond.instanceMethod yX3_size, Cond.selects RX3 yX3_size yX3_size, Cond.code yX3_size cX3_size 1 (some .int), Cond.methodLink RX1 28 yX3_at, Cond.instanceMethod yX3_at, Cond.selects RX3 yX3_at yX3_at, Cond.code yX3_at cX3_at 3 (some .int), Cond.fieldLink RX3 24 "OtherNames$Rows" "cells" "[I", Cond.fieldLink RX3 21 "OtherNames$Rows" "width" "I", Cond.methodLink RX3 35 yX3_hasCell, Cond.instanceMethod yX3_hasCell]
def wsX4_cross_r3 : List Cond := [Cond.selects RX3 yX3_hasCell yX3_hasCell, Cond.code yX3_hasCell cX3_hasCell 3 (some .boolean), Cond.methodLink RX1 39 yX1_nameAt, Cond.instanceMethod yX1_nameAt, Cond.selects RX1 yX1_nameAt yX1_nameAt, Cond.code yX1_nameAt cX1_nameAt 2 (some .int), Cond.methodLink RX4 133 yX0_isLost, Cond.instanceMethod yX0_isLost, Cond.selects RX0 yX0_isLost yX0_isLost, Cond.code yX0_isLost cX0_isLost 2 (some .boolean), Cond.methodLink RX0 35 yX3_at, Cond.methodLink RX4 105 yX4_isBridged, Cond.instanceMethod yX4_isBridged, Cond.selects RX4 yX4_isBridged yX4_isBridged, Cond.code yX4_isBridged cX4_isBridged 6 (some .boolean), Cond.fieldLink RX4 37 "OtherNames" "bridges" "LOtherNames$Rows;", Cond.methodLink RX4 195 yX3_size, Cond.methodLink RX4 172 yX3_at, Cond.methodLink RX4 212 yX1_ownerAt, Cond.instanceMethod yX1_ownerAt, Cond.selects RX1 yX1_ownerAt yX1_ownerAt, Cond.code yX1_ownerAt cX1_ownerAt 2 (some .int), Cond.methodLink RX4 215 yX0_isSpanned, Cond.instanceMethod yX0_isSpanned]
def wsX4_cross_r4 : List Cond := [Cond.selects RX0 yX0_isSpanned yX0_isSpanned, Cond.code yX0_isSpanned cX0_isSpanned 2 (some .boolean), Cond.methodLink RX4 218 yX1_spanNumberAt, Cond.instanceMethod yX1_spanNumberAt, Cond.selects RX1 yX1_spanNumberAt yX1_spanNumberAt, Cond.code yX1_spanNumberAt cX1_spanNumberAt 2 (some .int), Cond.methodLink RX4 202 yX0_spanNumber, Cond.instanceMethod yX0_spanNumber, Cond.selects RX0 yX0_spanNumber yX0_spanNumber, Cond.code yX0_spanNumber cX0_spanNumber 5 (some .int), Cond.methodLink RX0 43 yX0_isSpanned, Cond.methodLink RX4 77 yX2_isStruckOut, Cond.instanceMethod yX2_isStruckOut, Cond.selects RX2 yX2_isStruckOut yX2_isStruckOut, Cond.initialized RX2, Cond.code yX2_isStruckOut cX2_isStruckOut 2 (some .boolean), Cond.fieldLink RX2 16 "OtherNames$People" "rows" "LOtherNames$Rows;", Cond.methodLink RX2 42 yX3_at, Cond.methodLink RX4 80 yX4_nameIn, Cond.instanceMethod yX4_nameIn, Cond.selects RX4 yX4_nameIn yX4_nameIn, Cond.code yX4_nameIn cX4_nameIn 7 (some .int), Cond.methodLink RX4 199 yX1_countGivenBy, Cond.instanceMethod yX1_countGivenBy]
def wsX4_cross_r5 : List Cond := [Cond.selects RX1 yX1_countGivenBy yX1_countGivenBy, Cond.code yX1_countGivenBy cX1_countGivenBy 2 (some .int), Cond.methodLink RX1 58 yX1_countWith, Cond.instanceMethod yX1_countWith, Cond.selects RX1 yX1_countWith yX1_countWith, Cond.code yX1_countWith cX1_countWith 5 (some .int), Cond.methodLink RX4 178 yX2_headOf, Cond.instanceMethod yX2_headOf, Cond.selects RX2 yX2_headOf yX2_headOf, Cond.code yX2_headOf cX2_headOf 4 (some .int), Cond.methodLink RX4 205 yX1_firstFor, Cond.instanceMethod yX1_firstFor, Cond.selects RX1 yX1_firstFor yX1_firstFor, Cond.code yX1_firstFor cX1_firstFor 6 (some .int), Cond.fieldLink RX1 20 "OtherNames$Names" "people" "LOtherNames$People;", Cond.methodLink RX1 43 yX1_spanNumberAt, Cond.methodLink RX1 46 yX1_ownerAt, Cond.methodLink RX1 49 yX2_headOf, Cond.methodLink RX4 208 yX0_nameNumber, Cond.instanceMethod yX0_nameNumber, Cond.selects RX0 yX0_nameNumber yX0_nameNumber, Cond.code yX0_nameNumber cX0_nameNumber 3 (some .int), Cond.methodLink RX0 39 yX0_seedOf, Cond.instanceMethod yX0_seedOf]
def wsX4_cross_r6 : List Cond := [Cond.selects RX0 yX0_seedOf yX0_seedOf, Cond.code yX0_seedOf cX0_seedOf 2 (some .int), Cond.methodLink RX4 211 yX1_add, Cond.instanceMethod yX1_add, Cond.selects RX1 yX1_add yX1_add, Cond.code yX1_add cX1_add 7 (some .int), Cond.methodLink RX1 32 yX3_addRow, Cond.instanceMethod yX3_addRow, Cond.selects RX3 yX3_addRow yX3_addRow, Cond.code yX3_addRow cX3_addRow 1 (some .int), Cond.methodLink RX3 31 yX3_isFull, Cond.methodLink RX1 35 yX3_put, Cond.instanceMethod yX3_put, Cond.selects RX3 yX3_put yX3_put, Cond.code yX3_put cX3_put 4 none, Cond.methodLink RX4 91 yX1_nameAt, Cond.methodLink RX4 123 yX4_enter, Cond.instanceMethod yX4_enter, Cond.selects RX4 yX4_enter yX4_enter, Cond.code yX4_enter cX4_enter 7 none, Cond.methodLink RX4 97 yX3_addRow, Cond.methodLink RX4 101 yX3_put]
def wsX4_cross : List Cond := .code yX4_cross cX4_cross 6 (some .int) :: ((wsX4_cross_r1 ++ (wsX4_cross_r2 ++ (wsX4_cross_r3 ++ (wsX4_cross_r4 ++ (wsX4_cross_r5 ++ wsX4_cross_r6))))) ++ wsX40 ++ wsX00 ++ wsX30 ++ wsX10 ++ wsX20)
def wsX4_isReason : List Cond := .code yX4_isReason cX4_isReason 1 (some .boolean) :: ([])
def wsX4_headBehind_r1 : List Cond := [Cond.fieldLink RX4 28 "OtherNames" "names" "LOtherNames$Names;", Cond.fieldLink RX4 10 "OtherNames" "people" "LOtherNames$People;", Cond.methodLink RX4 84 yX1_find, Cond.instanceMethod yX1_find, Cond.selects RX1 yX1_find yX1_find, Cond.initialized RX1, Cond.code yX1_find cX1_find 4 (some .int), Cond.fieldLink RX1 16 "OtherNames$Names" "rows" "LOtherNames$Rows;", Cond.methodLink RX1 24 yX3_size, Cond.instanceMethod yX3_size, Cond.selects RX3 yX3_size yX3_size, Cond.initialized RX3, Cond.code yX3_size cX3_size 1 (some .int), Cond.fieldLink RX3 28 "OtherNames$Rows" "size" "I", Cond.methodLink RX1 28 yX3_at, Cond.instanceMethod yX3_at, Cond.selects RX3 yX3_at yX3_at, Cond.code yX3_at cX3_at 3 (some .int), Cond.fieldLink RX3 24 "OtherNames$Rows" "cells" "[I", Cond.fieldLink RX3 21 "OtherNames$Rows" "width" "I", Cond.methodLink RX3 35 yX3_hasCell, Cond.instanceMethod yX3_hasCell, Cond.selects RX3 yX3_hasCell yX3_hasCell, Cond.code yX3_hasCell cX3_hasCell 3 (some .boolean)]
def wsX4_headBehind_r2 : List Cond := [Cond.methodLink RX1 39 yX1_nameAt, Cond.instanceMethod yX1_nameAt, Cond.selects RX1 yX1_nameAt yX1_nameAt, Cond.code yX1_nameAt cX1_nameAt 2 (some .int), Cond.methodLink RX4 212 yX1_ownerAt, Cond.instanceMethod yX1_ownerAt, Cond.selects RX1 yX1_ownerAt yX1_ownerAt, Cond.code yX1_ownerAt cX1_ownerAt 2 (some .int), Cond.methodLink RX4 77 yX2_isStruckOut, Cond.instanceMethod yX2_isStruckOut, Cond.selects RX2 yX2_isStruckOut yX2_isStruckOut, Cond.initialized RX2, Cond.code yX2_isStruckOut cX2_isStruckOut 2 (some .boolean), Cond.fieldLink RX2 16 "OtherNames$People" "rows" "LOtherNames$Rows;", Cond.methodLink RX2 42 yX3_at, Cond.methodLink RX4 178 yX2_headOf, Cond.instanceMethod yX2_headOf, Cond.selects RX2 yX2_headOf yX2_headOf, Cond.code yX2_headOf cX2_headOf 4 (some .int)]
def wsX4_headBehind : List Cond := .code yX4_headBehind cX4_headBehind 4 (some .int) :: ((wsX4_headBehind_r1 ++ wsX4_headBehind_r2) ++ wsX40 ++ wsX10 ++ wsX30 ++ wsX20)
def wsX4_back_r1 : List Cond := [Cond.fieldLink RX4 19 "OtherNames" "houses" "LOtherNames$Houses;", Cond.fieldLink RX4 41 "OtherNames" "entries" "LOtherNames$Rows;", Cond.methodLink RX4 73 yX0_isThere, Cond.instanceMethod yX0_isThere, Cond.selects RX0 yX0_isThere yX0_isThere, Cond.initialized RX0, Cond.code yX0_isThere cX0_isThere 2 (some .boolean), Cond.fieldLink RX0 16 "OtherNames$Houses" "rows" "LOtherNames$Rows;", Cond.methodLink RX0 24 yX3_isThere, Cond.instanceMethod yX3_isThere, Cond.selects RX3 yX3_isThere yX3_isThere, Cond.initialized RX3, Cond.code yX3_isThere cX3_isThere 2 (some .boolean), Cond.fieldLink RX3 28 "OtherNames$Rows" "size" "I", Cond.methodLink RX4 127 yX4_isReason, Cond.static yX4_isReason, Cond.initialized RX4, Cond.code yX4_isReason cX4_isReason 1 (some .boolean), Cond.methodLink RX4 112 yX4_isHand, Cond.static yX4_isHand, Cond.code yX4_isHand cX4_isHand 1 (some .boolean), Cond.methodLink RX4 115 yX3_isFull, Cond.instanceMethod yX3_isFull, Cond.selects RX3 yX3_isFull yX3_isFull]
def wsX4_back_r2 : List Cond := [Cond.code yX3_isFull cX3_isFull 1 (some .boolean), Cond.fieldLink RX3 15 "OtherNames$Rows" "most" "I", Cond.methodLink RX4 130 yX0_reasonCounts, Cond.instanceMethod yX0_reasonCounts, Cond.selects RX0 yX0_reasonCounts yX0_reasonCounts, Cond.code yX0_reasonCounts cX0_reasonCounts 3 (some .boolean), Cond.methodLink RX0 35 yX3_at, Cond.instanceMethod yX3_at, Cond.selects RX3 yX3_at yX3_at, Cond.code yX3_at cX3_at 3 (some .int), Cond.fieldLink RX3 24 "OtherNames$Rows" "cells" "[I", Cond.fieldLink RX3 21 "OtherNames$Rows" "width" "I", Cond.methodLink RX3 35 yX3_hasCell, Cond.instanceMethod yX3_hasCell, Cond.selects RX3 yX3_hasCell yX3_hasCell, Cond.code yX3_hasCell cX3_hasCell 3 (some .boolean), Cond.methodLink RX4 133 yX0_isLost, Cond.instanceMethod yX0_isLost, Cond.selects RX0 yX0_isLost yX0_isLost, Cond.code yX0_isLost cX0_isLost 2 (some .boolean), Cond.methodLink RX4 136 yX4_headBehind, Cond.instanceMethod yX4_headBehind, Cond.selects RX4 yX4_headBehind yX4_headBehind, Cond.code yX4_headBehind cX4_headBehind 4 (some .int)]
def wsX4_back_r3 : List Cond := [Cond.fieldLink RX4 28 "OtherNames" "names" "LOtherNames$Names;", Cond.fieldLink RX4 10 "OtherNames" "people" "LOtherNames$People;", Cond.methodLink RX4 84 yX1_find, Cond.instanceMethod yX1_find, Cond.selects RX1 yX1_find yX1_find, Cond.initialized RX1, Cond.code yX1_find cX1_find 4 (some .int), Cond.fieldLink RX1 16 "OtherNames$Names" "rows" "LOtherNames$Rows;", Cond.methodLink RX1 24 yX3_size, Cond.instanceMethod yX3_size, Cond.selects RX3 yX3_size yX3_size, Cond.code yX3_size cX3_size 1 (some .int), Cond.methodLink RX1 28 yX3_at, Cond.methodLink RX1 39 yX1_nameAt, Cond.instanceMethod yX1_nameAt, Cond.selects RX1 yX1_nameAt yX1_nameAt, Cond.code yX1_nameAt cX1_nameAt 2 (some .int), Cond.methodLink RX4 212 yX1_ownerAt, Cond.instanceMethod yX1_ownerAt, Cond.selects RX1 yX1_ownerAt yX1_ownerAt, Cond.code yX1_ownerAt cX1_ownerAt 2 (some .int), Cond.methodLink RX4 77 yX2_isStruckOut, Cond.instanceMethod yX2_isStruckOut, Cond.selects RX2 yX2_isStruckOut yX2_isStruckOut]
def wsX4_back_r4 : List Cond := [Cond.initialized RX2, Cond.code yX2_isStruckOut cX2_isStruckOut 2 (some .boolean), Cond.fieldLink RX2 16 "OtherNames$People" "rows" "LOtherNames$Rows;", Cond.methodLink RX2 42 yX3_at, Cond.methodLink RX4 178 yX2_headOf, Cond.instanceMethod yX2_headOf, Cond.selects RX2 yX2_headOf yX2_headOf, Cond.code yX2_headOf cX2_headOf 4 (some .int), Cond.methodLink RX4 123 yX4_enter, Cond.instanceMethod yX4_enter, Cond.selects RX4 yX4_enter yX4_enter, Cond.code yX4_enter cX4_enter 7 none, Cond.fieldLink RX4 44 "OtherNames" "today" "I", Cond.methodLink RX4 97 yX3_addRow, Cond.instanceMethod yX3_addRow, Cond.selects RX3 yX3_addRow yX3_addRow, Cond.code yX3_addRow cX3_addRow 1 (some .int), Cond.methodLink RX3 31 yX3_isFull, Cond.methodLink RX4 101 yX3_put, Cond.instanceMethod yX3_put, Cond.selects RX3 yX3_put yX3_put, Cond.code yX3_put cX3_put 4 none]
def wsX4_back : List Cond := .code yX4_back cX4_back 8 (some .int) :: ((wsX4_back_r1 ++ (wsX4_back_r2 ++ (wsX4_back_r3 ++ wsX4_back_r4))) ++ wsX40 ++ wsX00 ++ wsX30 ++ wsX10 ++ wsX20)
def wsX4_lose_r1 : List Cond := [Cond.fieldLink RX4 19 "OtherNames" "houses" "LOtherNames$Houses;", Cond.methodLink RX4 73 yX0_isThere, Cond.instanceMethod yX0_isThere, Cond.selects RX0 yX0_isThere yX0_isThere, Cond.initialized RX0, Cond.code yX0_isThere cX0_isThere 2 (some .boolean), Cond.fieldLink RX0 16 "OtherNames$Houses" "rows" "LOtherNames$Rows;", Cond.methodLink RX0 24 yX3_isThere, Cond.instanceMethod yX3_isThere, Cond.selects RX3 yX3_isThere yX3_isThere, Cond.initialized RX3, Cond.code yX3_isThere cX3_isThere 2 (some .boolean), Cond.fieldLink RX3 28 "OtherNames$Rows" "size" "I", Cond.methodLink RX4 133 yX0_isLost, Cond.instanceMethod yX0_isLost, Cond.selects RX0 yX0_isLost yX0_isLost, Cond.code yX0_isLost cX0_isLost 2 (some .boolean), Cond.methodLink RX0 35 yX3_at, Cond.instanceMethod yX3_at, Cond.selects RX3 yX3_at yX3_at, Cond.code yX3_at cX3_at 3 (some .int), Cond.fieldLink RX3 24 "OtherNames$Rows" "cells" "[I", Cond.fieldLink RX3 21 "OtherNames$Rows" "width" "I", Cond.methodLink RX3 35 yX3_hasCell]
def wsX4_lose_r2 : List Cond := [Cond.instanceMethod yX3_hasCell, Cond.selects RX3 yX3_hasCell yX3_hasCell, Cond.code yX3_hasCell cX3_hasCell 3 (some .boolean), Cond.methodLink RX4 139 yX0_setLost, Cond.instanceMethod yX0_setLost, Cond.selects RX0 yX0_setLost yX0_setLost, Cond.code yX0_setLost cX0_setLost 3 none, Cond.methodLink RX0 31 yX3_put, Cond.instanceMethod yX3_put, Cond.selects RX3 yX3_put yX3_put, Cond.code yX3_put cX3_put 4 none]
def wsX4_lose : List Cond := .code yX4_lose cX4_lose 2 (some .boolean) :: ((wsX4_lose_r1 ++ wsX4_lose_r2) ++ wsX40 ++ wsX00 ++ wsX30)
def wsX4_anew_r1 : List Cond := [Cond.fieldLink RX4 19 "OtherNames" "houses" "LOtherNames$Houses;", Cond.methodLink RX4 73 yX0_isThere, Cond.instanceMethod yX0_isThere, Cond.selects RX0 yX0_isThere yX0_isThere, Cond.initialized RX0, Cond.code yX0_isThere cX0_isThere 2 (some .boolean), Cond.fieldLink RX0 16 "OtherNames$Houses" "rows" "LOtherNames$Rows;", Cond.methodLink RX0 24 yX3_isThere, Cond.instanceMethod yX3_isThere, Cond.selects RX3 yX3_isThere yX3_isThere, Cond.initialized RX3, Cond.code yX3_isThere cX3_isThere 2 (some .boolean), Cond.fieldLink RX3 28 "OtherNames$Rows" "size" "I", Cond.methodLink RX4 133 yX0_isLost, Cond.instanceMethod yX0_isLost, Cond.selects RX0 yX0_isLost yX0_isLost, Cond.code yX0_isLost cX0_isLost 2 (some .boolean), Cond.methodLink RX0 35 yX3_at, Cond.instanceMethod yX3_at, Cond.selects RX3 yX3_at yX3_at, Cond.code yX3_at cX3_at 3 (some .int), Cond.fieldLink RX3 24 "OtherNames$Rows" "cells" "[I", Cond.fieldLink RX3 21 "OtherNames$Rows" "width" "I", Cond.methodLink RX3 35 yX3_hasCell]
def wsX4_anew_r2 : List Cond := [Cond.instanceMethod yX3_hasCell, Cond.selects RX3 yX3_hasCell yX3_hasCell, Cond.code yX3_hasCell cX3_hasCell 3 (some .boolean), Cond.methodLink RX4 143 yX0_seedOf, Cond.instanceMethod yX0_seedOf, Cond.selects RX0 yX0_seedOf yX0_seedOf, Cond.code yX0_seedOf cX0_seedOf 2 (some .int), Cond.methodLink RX4 139 yX0_setLost, Cond.instanceMethod yX0_setLost, Cond.selects RX0 yX0_setLost yX0_setLost, Cond.code yX0_setLost cX0_setLost 3 none, Cond.methodLink RX0 31 yX3_put, Cond.instanceMethod yX3_put, Cond.selects RX3 yX3_put yX3_put, Cond.code yX3_put cX3_put 4 none]
def wsX4_anew : List Cond := .code yX4_anew cX4_anew 3 (some .boolean) :: ((wsX4_anew_r1 ++ wsX4_anew_r2) ++ wsX40 ++ wsX00 ++ wsX30)
def wsX4_areMarks : List Cond := .code yX4_areMarks cX4_areMarks 1 (some .boolean) :: ([])
def wsX4_joins_r1 : List Cond := [Cond.fieldLink RX4 28 "OtherNames" "names" "LOtherNames$Names;", Cond.fieldLink RX4 10 "OtherNames" "people" "LOtherNames$People;", Cond.methodLink RX4 94 yX4_areTwoHouses, Cond.instanceMethod yX4_areTwoHouses, Cond.selects RX4 yX4_areTwoHouses yX4_areTwoHouses, Cond.initialized RX4, Cond.code yX4_areTwoHouses cX4_areTwoHouses 3 (some .boolean), Cond.fieldLink RX4 19 "OtherNames" "houses" "LOtherNames$Houses;", Cond.methodLink RX4 73 yX0_isThere, Cond.instanceMethod yX0_isThere, Cond.selects RX0 yX0_isThere yX0_isThere, Cond.initialized RX0, Cond.code yX0_isThere cX0_isThere 2 (some .boolean), Cond.fieldLink RX0 16 "OtherNames$Houses" "rows" "LOtherNames$Rows;", Cond.methodLink RX0 24 yX3_isThere, Cond.instanceMethod yX3_isThere, Cond.selects RX3 yX3_isThere yX3_isThere, Cond.initialized RX3, Cond.code yX3_isThere cX3_isThere 2 (some .boolean), Cond.fieldLink RX3 28 "OtherNames$Rows" "size" "I", Cond.methodLink RX4 146 yX4_areMarks, Cond.static yX4_areMarks, Cond.code yX4_areMarks cX4_areMarks 1 (some .boolean), Cond.methodLink RX4 149 yX1_knownTo]
def wsX4_joins_r2 : List Cond := [Cond.instanceMethod yX1_knownTo, Cond.selects RX1 yX1_knownTo yX1_knownTo, Cond.initialized RX1, Cond.code yX1_knownTo cX1_knownTo 5 (some .int), Cond.fieldLink RX1 16 "OtherNames$Names" "rows" "LOtherNames$Rows;", Cond.fieldLink RX1 20 "OtherNames$Names" "people" "LOtherNames$People;", Cond.methodLink RX1 24 yX3_size, Cond.instanceMethod yX3_size, Cond.selects RX3 yX3_size yX3_size, Cond.code yX3_size cX3_size 1 (some .int), Cond.methodLink RX1 46 yX1_ownerAt, Cond.instanceMethod yX1_ownerAt, Cond.selects RX1 yX1_ownerAt yX1_ownerAt, Cond.code yX1_ownerAt cX1_ownerAt 2 (some .int), Cond.methodLink RX1 28 yX3_at, Cond.instanceMethod yX3_at, Cond.selects RX3 yX3_at yX3_at, Cond.code yX3_at cX3_at 3 (some .int), Cond.fieldLink RX3 24 "OtherNames$Rows" "cells" "[I", Cond.fieldLink RX3 21 "OtherNames$Rows" "width" "I", Cond.methodLink RX3 35 yX3_hasCell, Cond.instanceMethod yX3_hasCell, Cond.selects RX3 yX3_hasCell yX3_hasCell, Cond.code yX3_hasCell cX3_hasCell 3 (some .boolean)]
def wsX4_joins_r3 : List Cond := [Cond.methodLink RX1 49 yX2_headOf, Cond.instanceMethod yX2_headOf, Cond.selects RX2 yX2_headOf yX2_headOf, Cond.initialized RX2, Cond.code yX2_headOf cX2_headOf 4 (some .int), Cond.fieldLink RX2 16 "OtherNames$People" "rows" "LOtherNames$Rows;", Cond.methodLink RX2 42 yX3_at, Cond.methodLink RX1 61 yX2_isStruckOut, Cond.instanceMethod yX2_isStruckOut, Cond.selects RX2 yX2_isStruckOut yX2_isStruckOut, Cond.code yX2_isStruckOut cX2_isStruckOut 2 (some .boolean), Cond.methodLink RX4 152 yX2_groupSize, Cond.instanceMethod yX2_groupSize, Cond.selects RX2 yX2_groupSize yX2_groupSize, Cond.code yX2_groupSize cX2_groupSize 6 (some .int), Cond.methodLink RX2 63 yX2_isAmong, Cond.static yX2_isAmong, Cond.code yX2_isAmong cX2_isAmong 2 (some .boolean), Cond.methodLink RX2 67 yX2_areAlike, Cond.instanceMethod yX2_areAlike, Cond.selects RX2 yX2_areAlike yX2_areAlike, Cond.code yX2_areAlike cX2_areAlike 5 (some .boolean), Cond.methodLink RX2 71 yX2_markOf, Cond.instanceMethod yX2_markOf]
def wsX4_joins_r4 : List Cond := [Cond.selects RX2 yX2_markOf yX2_markOf, Cond.code yX2_markOf cX2_markOf 3 (some .int), Cond.methodLink RX2 39 yX2_isMark, Cond.static yX2_isMark, Cond.code yX2_isMark cX2_isMark 1 (some .boolean)]
def wsX4_joins : List Cond := .code yX4_joins cX4_joins 9 (some .int) :: ((wsX4_joins_r1 ++ (wsX4_joins_r2 ++ (wsX4_joins_r3 ++ wsX4_joins_r4))) ++ wsX40 ++ wsX00 ++ wsX30 ++ wsX10 ++ wsX20)
def wsJ6_bitCount_0f7a4 : List Cond := .code yJ6_bitCount_0f7a4 cJ6_bitCount_0f7a4 1 (some .int) :: ([.constant RJ6 265 (1431655765), .constant RJ6 266 (858993459), .constant RJ6 267 (252645135)])
def wsX4_least_r1 : List Cond := [Cond.fieldLink RX4 19 "OtherNames" "houses" "LOtherNames$Houses;", Cond.fieldLink RX4 28 "OtherNames" "names" "LOtherNames$Names;", Cond.fieldLink RX4 10 "OtherNames" "people" "LOtherNames$People;", Cond.methodLink RX4 73 yX0_isThere, Cond.instanceMethod yX0_isThere, Cond.selects RX0 yX0_isThere yX0_isThere, Cond.initialized RX0, Cond.code yX0_isThere cX0_isThere 2 (some .boolean), Cond.fieldLink RX0 16 "OtherNames$Houses" "rows" "LOtherNames$Rows;", Cond.methodLink RX0 24 yX3_isThere, Cond.instanceMethod yX3_isThere, Cond.selects RX3 yX3_isThere yX3_isThere, Cond.initialized RX3, Cond.code yX3_isThere cX3_isThere 2 (some .boolean), Cond.fieldLink RX3 28 "OtherNames$Rows" "size" "I", Cond.methodLink RX4 146 yX4_areMarks, Cond.static yX4_areMarks, Cond.initialized RX4, Cond.code yX4_areMarks cX4_areMarks 1 (some .boolean), Cond.methodLink RX4 149 yX1_knownTo, Cond.instanceMethod yX1_knownTo, Cond.selects RX1 yX1_knownTo yX1_knownTo, Cond.initialized RX1, Cond.code yX1_knownTo cX1_knownTo 5 (some .int)]
def wsX4_least_r2 : List Cond := [Cond.fieldLink RX1 16 "OtherNames$Names" "rows" "LOtherNames$Rows;", Cond.fieldLink RX1 20 "OtherNames$Names" "people" "LOtherNames$People;", Cond.methodLink RX1 24 yX3_size, Cond.instanceMethod yX3_size, Cond.selects RX3 yX3_size yX3_size, Cond.code yX3_size cX3_size 1 (some .int), Cond.methodLink RX1 46 yX1_ownerAt, Cond.instanceMethod yX1_ownerAt, Cond.selects RX1 yX1_ownerAt yX1_ownerAt, Cond.code yX1_ownerAt cX1_ownerAt 2 (some .int), Cond.methodLink RX1 28 yX3_at, Cond.instanceMethod yX3_at, Cond.selects RX3 yX3_at yX3_at, Cond.code yX3_at cX3_at 3 (some .int), Cond.fieldLink RX3 24 "OtherNames$Rows" "cells" "[I", Cond.fieldLink RX3 21 "OtherNames$Rows" "width" "I", Cond.methodLink RX3 35 yX3_hasCell, Cond.instanceMethod yX3_hasCell, Cond.selects RX3 yX3_hasCell yX3_hasCell, Cond.code yX3_hasCell cX3_hasCell 3 (some .boolean), Cond.methodLink RX1 49 yX2_headOf, Cond.instanceMethod yX2_headOf, Cond.selects RX2 yX2_headOf yX2_headOf, Cond.initialized RX2]
def wsX4_least_r3 : List Cond := [Cond.code yX2_headOf cX2_headOf 4 (some .int), Cond.fieldLink RX2 16 "OtherNames$People" "rows" "LOtherNames$Rows;", Cond.methodLink RX2 42 yX3_at, Cond.methodLink RX1 61 yX2_isStruckOut, Cond.instanceMethod yX2_isStruckOut, Cond.selects RX2 yX2_isStruckOut yX2_isStruckOut, Cond.code yX2_isStruckOut cX2_isStruckOut 2 (some .boolean), Cond.methodLink RX4 155 yJ6_bitCount_0f7a4, Cond.static yJ6_bitCount_0f7a4, Cond.initialized RJ6, Cond.code yJ6_bitCount_0f7a4 cJ6_bitCount_0f7a4 1 (some .int), Cond.constant RJ6 265 (1431655765), Cond.constant RJ6 266 (858993459), Cond.constant RJ6 267 (252645135), Cond.methodLink RX4 152 yX2_groupSize, Cond.instanceMethod yX2_groupSize, Cond.selects RX2 yX2_groupSize yX2_groupSize, Cond.code yX2_groupSize cX2_groupSize 6 (some .int), Cond.methodLink RX2 63 yX2_isAmong, Cond.static yX2_isAmong, Cond.code yX2_isAmong cX2_isAmong 2 (some .boolean), Cond.methodLink RX2 67 yX2_areAlike, Cond.instanceMethod yX2_areAlike, Cond.selects RX2 yX2_areAlike yX2_areAlike]
def wsX4_least_r4 : List Cond := [Cond.code yX2_areAlike cX2_areAlike 5 (some .boolean), Cond.methodLink RX2 71 yX2_markOf, Cond.instanceMethod yX2_markOf, Cond.selects RX2 yX2_markOf yX2_markOf, Cond.code yX2_markOf cX2_markOf 3 (some .int), Cond.methodLink RX2 39 yX2_isMark, Cond.static yX2_isMark, Cond.code yX2_isMark cX2_isMark 1 (some .boolean)]
def wsX4_least : List Cond := .code yX4_least cX4_least 7 (some .int) :: ((wsX4_least_r1 ++ (wsX4_least_r2 ++ (wsX4_least_r3 ++ wsX4_least_r4))) ++ wsX40 ++ wsX00 ++ wsX30 ++ wsX10 ++ wsX20)
def wsX4_isTooSmall : List Cond := .code yX4_isTooSmall cX4_isTooSmall 3 (some .boolean) :: ([.fieldLink RX4 19 "OtherNames" "houses" "LOtherNames$Houses;", .methodLink RX4 221 yX0_leastOf, .instanceMethod yX0_leastOf, .selects RX0 yX0_leastOf yX0_leastOf, .initialized RX0, .code yX0_leastOf cX0_leastOf 2 (some .int), .fieldLink RX0 16 "OtherNames$Houses" "rows" "LOtherNames$Rows;", .methodLink RX0 35 yX3_at, .instanceMethod yX3_at, .selects RX3 yX3_at yX3_at, .initialized RX3, .code yX3_at cX3_at 3 (some .int), .fieldLink RX3 24 "OtherNames$Rows" "cells" "[I", .fieldLink RX3 21 "OtherNames$Rows" "width" "I", .methodLink RX3 35 yX3_hasCell, .instanceMethod yX3_hasCell, .selects RX3 yX3_hasCell yX3_hasCell, .code yX3_hasCell cX3_hasCell 3 (some .boolean), .fieldLink RX3 28 "OtherNames$Rows" "size" "I"] ++ wsX40 ++ wsX00 ++ wsX30)
def wsX4_count_r1 : List Cond := [Cond.fieldLink RX4 19 "OtherNames" "houses" "LOtherNames$Houses;", Cond.fieldLink RX4 28 "OtherNames" "names" "LOtherNames$Names;", Cond.fieldLink RX4 10 "OtherNames" "people" "LOtherNames$People;", Cond.methodLink RX4 73 yX0_isThere, Cond.instanceMethod yX0_isThere, Cond.selects RX0 yX0_isThere yX0_isThere, Cond.initialized RX0, Cond.code yX0_isThere cX0_isThere 2 (some .boolean), Cond.fieldLink RX0 16 "OtherNames$Houses" "rows" "LOtherNames$Rows;", Cond.methodLink RX0 24 yX3_isThere, Cond.instanceMethod yX3_isThere, Cond.selects RX3 yX3_isThere yX3_isThere, Cond.initialized RX3, Cond.code yX3_isThere cX3_isThere 2 (some .boolean), Cond.fieldLink RX3 28 "OtherNames$Rows" "size" "I", Cond.methodLink RX4 160 yX2_isMark, Cond.static yX2_isMark, Cond.initialized RX2, Cond.code yX2_isMark cX2_isMark 1 (some .boolean), Cond.methodLink RX4 163 yX2_isMarkNumber, Cond.static yX2_isMarkNumber, Cond.code yX2_isMarkNumber cX2_isMarkNumber 1 (some .boolean), Cond.methodLink RX4 149 yX1_knownTo, Cond.instanceMethod yX1_knownTo]
def wsX4_count_r2 : List Cond := [Cond.selects RX1 yX1_knownTo yX1_knownTo, Cond.initialized RX1, Cond.code yX1_knownTo cX1_knownTo 5 (some .int), Cond.fieldLink RX1 16 "OtherNames$Names" "rows" "LOtherNames$Rows;", Cond.fieldLink RX1 20 "OtherNames$Names" "people" "LOtherNames$People;", Cond.methodLink RX1 24 yX3_size, Cond.instanceMethod yX3_size, Cond.selects RX3 yX3_size yX3_size, Cond.code yX3_size cX3_size 1 (some .int), Cond.methodLink RX1 46 yX1_ownerAt, Cond.instanceMethod yX1_ownerAt, Cond.selects RX1 yX1_ownerAt yX1_ownerAt, Cond.code yX1_ownerAt cX1_ownerAt 2 (some .int), Cond.methodLink RX1 28 yX3_at, Cond.instanceMethod yX3_at, Cond.selects RX3 yX3_at yX3_at, Cond.code yX3_at cX3_at 3 (some .int), Cond.fieldLink RX3 24 "OtherNames$Rows" "cells" "[I", Cond.fieldLink RX3 21 "OtherNames$Rows" "width" "I", Cond.methodLink RX3 35 yX3_hasCell, Cond.instanceMethod yX3_hasCell, Cond.selects RX3 yX3_hasCell yX3_hasCell, Cond.code yX3_hasCell cX3_hasCell 3 (some .boolean), Cond.methodLink RX1 49 yX2_headOf]
def wsX4_count_r3 : List Cond := [Cond.instanceMethod yX2_headOf, Cond.selects RX2 yX2_headOf yX2_headOf, Cond.code yX2_headOf cX2_headOf 4 (some .int), Cond.fieldLink RX2 16 "OtherNames$People" "rows" "LOtherNames$Rows;", Cond.methodLink RX2 42 yX3_at, Cond.methodLink RX1 61 yX2_isStruckOut, Cond.instanceMethod yX2_isStruckOut, Cond.selects RX2 yX2_isStruckOut yX2_isStruckOut, Cond.code yX2_isStruckOut cX2_isStruckOut 2 (some .boolean), Cond.methodLink RX4 166 yX2_countHaving, Cond.instanceMethod yX2_countHaving, Cond.selects RX2 yX2_countHaving yX2_countHaving, Cond.code yX2_countHaving cX2_countHaving 6 (some .int), Cond.methodLink RX2 63 yX2_isAmong, Cond.static yX2_isAmong, Cond.code yX2_isAmong cX2_isAmong 2 (some .boolean), Cond.methodLink RX2 71 yX2_markOf, Cond.instanceMethod yX2_markOf, Cond.selects RX2 yX2_markOf yX2_markOf, Cond.code yX2_markOf cX2_markOf 3 (some .int), Cond.methodLink RX2 39 yX2_isMark, Cond.methodLink RX4 155 yJ6_bitCount_0f7a4, Cond.static yJ6_bitCount_0f7a4, Cond.initialized RJ6]
def wsX4_count_r4 : List Cond := [Cond.code yJ6_bitCount_0f7a4 cJ6_bitCount_0f7a4 1 (some .int), Cond.constant RJ6 265 (1431655765), Cond.constant RJ6 266 (858993459), Cond.constant RJ6 267 (252645135), Cond.methodLink RX4 169 yX4_isTooSmall, Cond.instanceMethod yX4_isTooSmall, Cond.selects RX4 yX4_isTooSmall yX4_isTooSmall, Cond.initialized RX4, Cond.code yX4_isTooSmall cX4_isTooSmall 3 (some .boolean), Cond.methodLink RX4 221 yX0_leastOf, Cond.instanceMethod yX0_leastOf, Cond.selects RX0 yX0_leastOf yX0_leastOf, Cond.code yX0_leastOf cX0_leastOf 2 (some .int), Cond.methodLink RX0 35 yX3_at]
def wsX4_count : List Cond := .code yX4_count cX4_count 7 (some .int) :: ((wsX4_count_r1 ++ (wsX4_count_r2 ++ (wsX4_count_r3 ++ wsX4_count_r4))) ++ wsX40 ++ wsX00 ++ wsX30 ++ wsX10 ++ wsX20)
def wsX4_record : List Cond := .code yX4_record cX4_record 3 (some .int) :: ([.fieldLink RX4 41 "OtherNames" "entries" "LOtherNames$Rows;", .methodLink RX4 172 yX3_at, .instanceMethod yX3_at, .selects RX3 yX3_at yX3_at, .initialized RX3, .code yX3_at cX3_at 3 (some .int), .fieldLink RX3 24 "OtherNames$Rows" "cells" "[I", .fieldLink RX3 21 "OtherNames$Rows" "width" "I", .methodLink RX3 35 yX3_hasCell, .instanceMethod yX3_hasCell, .selects RX3 yX3_hasCell yX3_hasCell, .code yX3_hasCell cX3_hasCell 3 (some .boolean), .fieldLink RX3 28 "OtherNames$Rows" "size" "I"] ++ wsX40 ++ wsX30)
def wsX4_given : List Cond := .code yX4_given cX4_given 3 (some .int) :: ([.fieldLink RX4 28 "OtherNames" "names" "LOtherNames$Names;", .methodLink RX4 175 yX1_cell, .instanceMethod yX1_cell, .selects RX1 yX1_cell yX1_cell, .initialized RX1, .code yX1_cell cX1_cell 3 (some .int), .fieldLink RX1 16 "OtherNames$Names" "rows" "LOtherNames$Rows;", .methodLink RX1 28 yX3_at, .instanceMethod yX3_at, .selects RX3 yX3_at yX3_at, .initialized RX3, .code yX3_at cX3_at 3 (some .int), .fieldLink RX3 24 "OtherNames$Rows" "cells" "[I", .fieldLink RX3 21 "OtherNames$Rows" "width" "I", .methodLink RX3 35 yX3_hasCell, .instanceMethod yX3_hasCell, .selects RX3 yX3_hasCell yX3_hasCell, .code yX3_hasCell cX3_hasCell 3 (some .boolean), .fieldLink RX3 28 "OtherNames$Rows" "size" "I"] ++ wsX40 ++ wsX10 ++ wsX30)
def wsX4_look_r1 : List Cond := [Cond.fieldLink RX4 10 "OtherNames" "people" "LOtherNames$People;", Cond.fieldLink RX4 28 "OtherNames" "names" "LOtherNames$Names;", Cond.methodLink RX4 76 yX2_isThere, Cond.instanceMethod yX2_isThere, Cond.selects RX2 yX2_isThere yX2_isThere, Cond.initialized RX2, Cond.code yX2_isThere cX2_isThere 2 (some .boolean), Cond.fieldLink RX2 16 "OtherNames$People" "rows" "LOtherNames$Rows;", Cond.methodLink RX2 24 yX3_isThere, Cond.instanceMethod yX3_isThere, Cond.selects RX3 yX3_isThere yX3_isThere, Cond.initialized RX3, Cond.code yX3_isThere cX3_isThere 2 (some .boolean), Cond.fieldLink RX3 28 "OtherNames$Rows" "size" "I", Cond.methodLink RX4 178 yX2_headOf, Cond.instanceMethod yX2_headOf, Cond.selects RX2 yX2_headOf yX2_headOf, Cond.code yX2_headOf cX2_headOf 4 (some .int), Cond.methodLink RX2 42 yX3_at, Cond.instanceMethod yX3_at, Cond.selects RX3 yX3_at yX3_at, Cond.code yX3_at cX3_at 3 (some .int), Cond.fieldLink RX3 24 "OtherNames$Rows" "cells" "[I", Cond.fieldLink RX3 21 "OtherNames$Rows" "width" "I"]
def wsX4_look_r2 : List Cond := [Cond.methodLink RX3 35 yX3_hasCell, Cond.instanceMethod yX3_hasCell, Cond.selects RX3 yX3_hasCell yX3_hasCell, Cond.code yX3_hasCell cX3_hasCell 3 (some .boolean), Cond.methodLink RX4 181 yX2_holderOf, Cond.instanceMethod yX2_holderOf, Cond.selects RX2 yX2_holderOf yX2_holderOf, Cond.code yX2_holderOf cX2_holderOf 2 (some .int), Cond.methodLink RX4 77 yX2_isStruckOut, Cond.instanceMethod yX2_isStruckOut, Cond.selects RX2 yX2_isStruckOut yX2_isStruckOut, Cond.code yX2_isStruckOut cX2_isStruckOut 2 (some .boolean), Cond.methodLink RX4 108 yX4_oneIf, Cond.static yX4_oneIf, Cond.initialized RX4, Cond.code yX4_oneIf cX4_oneIf 1 (some .int), Cond.methodLink RX4 184 yX1_countOwnedBy, Cond.instanceMethod yX1_countOwnedBy, Cond.selects RX1 yX1_countOwnedBy yX1_countOwnedBy, Cond.initialized RX1, Cond.code yX1_countOwnedBy cX1_countOwnedBy 2 (some .int), Cond.methodLink RX1 58 yX1_countWith, Cond.instanceMethod yX1_countWith, Cond.selects RX1 yX1_countWith yX1_countWith]
def wsX4_look_r3 : List Cond := [Cond.code yX1_countWith cX1_countWith 5 (some .int), Cond.fieldLink RX1 16 "OtherNames$Names" "rows" "LOtherNames$Rows;", Cond.methodLink RX1 24 yX3_size, Cond.instanceMethod yX3_size, Cond.selects RX3 yX3_size yX3_size, Cond.code yX3_size cX3_size 1 (some .int), Cond.methodLink RX1 28 yX3_at, Cond.methodLink RX4 187 yX2_markOf, Cond.instanceMethod yX2_markOf, Cond.selects RX2 yX2_markOf yX2_markOf, Cond.code yX2_markOf cX2_markOf 3 (some .int), Cond.methodLink RX2 39 yX2_isMark, Cond.static yX2_isMark, Cond.code yX2_isMark cX2_isMark 1 (some .boolean)]
def wsX4_look : List Cond := .code yX4_look cX4_look 3 (some .int) :: ((wsX4_look_r1 ++ (wsX4_look_r2 ++ wsX4_look_r3)) ++ wsX40 ++ wsX20 ++ wsX30 ++ wsX10)
def wsX4_tellOfHouse_r1 : List Cond := [Cond.fieldLink RX4 19 "OtherNames" "houses" "LOtherNames$Houses;", Cond.fieldLink RX4 28 "OtherNames" "names" "LOtherNames$Names;", Cond.methodLink RX4 73 yX0_isThere, Cond.instanceMethod yX0_isThere, Cond.selects RX0 yX0_isThere yX0_isThere, Cond.initialized RX0, Cond.code yX0_isThere cX0_isThere 2 (some .boolean), Cond.fieldLink RX0 16 "OtherNames$Houses" "rows" "LOtherNames$Rows;", Cond.methodLink RX0 24 yX3_isThere, Cond.instanceMethod yX3_isThere, Cond.selects RX3 yX3_isThere yX3_isThere, Cond.initialized RX3, Cond.code yX3_isThere cX3_isThere 2 (some .boolean), Cond.fieldLink RX3 28 "OtherNames$Rows" "size" "I", Cond.methodLink RX4 199 yX1_countGivenBy, Cond.instanceMethod yX1_countGivenBy, Cond.selects RX1 yX1_countGivenBy yX1_countGivenBy, Cond.initialized RX1, Cond.code yX1_countGivenBy cX1_countGivenBy 2 (some .int), Cond.methodLink RX1 58 yX1_countWith, Cond.instanceMethod yX1_countWith, Cond.selects RX1 yX1_countWith yX1_countWith, Cond.code yX1_countWith cX1_countWith 5 (some .int), Cond.fieldLink RX1 16 "OtherNames$Names" "rows" "LOtherNames$Rows;"]
def wsX4_tellOfHouse_r2 : List Cond := [Cond.methodLink RX1 24 yX3_size, Cond.instanceMethod yX3_size, Cond.selects RX3 yX3_size yX3_size, Cond.code yX3_size cX3_size 1 (some .int), Cond.methodLink RX1 28 yX3_at, Cond.instanceMethod yX3_at, Cond.selects RX3 yX3_at yX3_at, Cond.code yX3_at cX3_at 3 (some .int), Cond.fieldLink RX3 24 "OtherNames$Rows" "cells" "[I", Cond.fieldLink RX3 21 "OtherNames$Rows" "width" "I", Cond.methodLink RX3 35 yX3_hasCell, Cond.instanceMethod yX3_hasCell, Cond.selects RX3 yX3_hasCell yX3_hasCell, Cond.code yX3_hasCell cX3_hasCell 3 (some .boolean), Cond.methodLink RX4 149 yX1_knownTo, Cond.instanceMethod yX1_knownTo, Cond.selects RX1 yX1_knownTo yX1_knownTo, Cond.code yX1_knownTo cX1_knownTo 5 (some .int), Cond.fieldLink RX1 20 "OtherNames$Names" "people" "LOtherNames$People;", Cond.methodLink RX1 46 yX1_ownerAt, Cond.instanceMethod yX1_ownerAt, Cond.selects RX1 yX1_ownerAt yX1_ownerAt, Cond.code yX1_ownerAt cX1_ownerAt 2 (some .int), Cond.methodLink RX1 49 yX2_headOf]
def wsX4_tellOfHouse_r3 : List Cond := [Cond.instanceMethod yX2_headOf, Cond.selects RX2 yX2_headOf yX2_headOf, Cond.initialized RX2, Cond.code yX2_headOf cX2_headOf 4 (some .int), Cond.fieldLink RX2 16 "OtherNames$People" "rows" "LOtherNames$Rows;", Cond.methodLink RX2 42 yX3_at, Cond.methodLink RX1 61 yX2_isStruckOut, Cond.instanceMethod yX2_isStruckOut, Cond.selects RX2 yX2_isStruckOut yX2_isStruckOut, Cond.code yX2_isStruckOut cX2_isStruckOut 2 (some .boolean), Cond.methodLink RX4 155 yJ6_bitCount_0f7a4, Cond.static yJ6_bitCount_0f7a4, Cond.initialized RJ6, Cond.code yJ6_bitCount_0f7a4 cJ6_bitCount_0f7a4 1 (some .int), Cond.constant RJ6 265 (1431655765), Cond.constant RJ6 266 (858993459), Cond.constant RJ6 267 (252645135), Cond.methodLink RX4 133 yX0_isLost, Cond.instanceMethod yX0_isLost, Cond.selects RX0 yX0_isLost yX0_isLost, Cond.code yX0_isLost cX0_isLost 2 (some .boolean), Cond.methodLink RX0 35 yX3_at, Cond.methodLink RX4 108 yX4_oneIf, Cond.static yX4_oneIf]
def wsX4_tellOfHouse_r4 : List Cond := [Cond.initialized RX4, Cond.code yX4_oneIf cX4_oneIf 1 (some .int)]
def wsX4_tellOfHouse : List Cond := .code yX4_tellOfHouse cX4_tellOfHouse 3 (some .int) :: ((wsX4_tellOfHouse_r1 ++ (wsX4_tellOfHouse_r2 ++ (wsX4_tellOfHouse_r3 ++ wsX4_tellOfHouse_r4))) ++ wsX40 ++ wsX00 ++ wsX30 ++ wsX10 ++ wsX20)
def wsX4_tell_r1 : List Cond := [Cond.fieldLink RX4 10 "OtherNames" "people" "LOtherNames$People;", Cond.fieldLink RX4 19 "OtherNames" "houses" "LOtherNames$Houses;", Cond.fieldLink RX4 44 "OtherNames" "today" "I", Cond.fieldLink RX4 28 "OtherNames" "names" "LOtherNames$Names;", Cond.fieldLink RX4 41 "OtherNames" "entries" "LOtherNames$Rows;", Cond.fieldLink RX4 37 "OtherNames" "bridges" "LOtherNames$Rows;", Cond.methodLink RX4 190 yX2_size, Cond.instanceMethod yX2_size, Cond.selects RX2 yX2_size yX2_size, Cond.initialized RX2, Cond.code yX2_size cX2_size 1 (some .int), Cond.fieldLink RX2 16 "OtherNames$People" "rows" "LOtherNames$Rows;", Cond.methodLink RX2 20 yX3_size, Cond.instanceMethod yX3_size, Cond.selects RX3 yX3_size yX3_size, Cond.initialized RX3, Cond.code yX3_size cX3_size 1 (some .int), Cond.fieldLink RX3 28 "OtherNames$Rows" "size" "I", Cond.methodLink RX4 193 yX0_size, Cond.instanceMethod yX0_size, Cond.selects RX0 yX0_size yX0_size, Cond.initialized RX0, Cond.code yX0_size cX0_size 1 (some .int), Cond.fieldLink RX0 16 "OtherNames$Houses" "rows" "LOtherNames$Rows;"]
def wsX4_tell_r2 : List Cond := [Cond.methodLink RX0 20 yX3_size, Cond.methodLink RX4 194 yX1_size, Cond.instanceMethod yX1_size, Cond.selects RX1 yX1_size yX1_size, Cond.initialized RX1, Cond.code yX1_size cX1_size 1 (some .int), Cond.fieldLink RX1 16 "OtherNames$Names" "rows" "LOtherNames$Rows;", Cond.methodLink RX1 24 yX3_size, Cond.methodLink RX4 195 yX3_size, Cond.methodLink RX4 196 yX4_tellOfHouse, Cond.instanceMethod yX4_tellOfHouse, Cond.selects RX4 yX4_tellOfHouse yX4_tellOfHouse, Cond.initialized RX4, Cond.code yX4_tellOfHouse cX4_tellOfHouse 3 (some .int), Cond.methodLink RX4 73 yX0_isThere, Cond.instanceMethod yX0_isThere, Cond.selects RX0 yX0_isThere yX0_isThere, Cond.code yX0_isThere cX0_isThere 2 (some .boolean), Cond.methodLink RX0 24 yX3_isThere, Cond.instanceMethod yX3_isThere, Cond.selects RX3 yX3_isThere yX3_isThere, Cond.code yX3_isThere cX3_isThere 2 (some .boolean), Cond.methodLink RX4 199 yX1_countGivenBy, Cond.instanceMethod yX1_countGivenBy]
def wsX4_tell_r3 : List Cond := [Cond.selects RX1 yX1_countGivenBy yX1_countGivenBy, Cond.code yX1_countGivenBy cX1_countGivenBy 2 (some .int), Cond.methodLink RX1 58 yX1_countWith, Cond.instanceMethod yX1_countWith, Cond.selects RX1 yX1_countWith yX1_countWith, Cond.code yX1_countWith cX1_countWith 5 (some .int), Cond.methodLink RX1 28 yX3_at, Cond.instanceMethod yX3_at, Cond.selects RX3 yX3_at yX3_at, Cond.code yX3_at cX3_at 3 (some .int), Cond.fieldLink RX3 24 "OtherNames$Rows" "cells" "[I", Cond.fieldLink RX3 21 "OtherNames$Rows" "width" "I", Cond.methodLink RX3 35 yX3_hasCell, Cond.instanceMethod yX3_hasCell, Cond.selects RX3 yX3_hasCell yX3_hasCell, Cond.code yX3_hasCell cX3_hasCell 3 (some .boolean), Cond.methodLink RX4 149 yX1_knownTo, Cond.instanceMethod yX1_knownTo, Cond.selects RX1 yX1_knownTo yX1_knownTo, Cond.code yX1_knownTo cX1_knownTo 5 (some .int), Cond.fieldLink RX1 20 "OtherNames$Names" "people" "LOtherNames$People;", Cond.methodLink RX1 46 yX1_ownerAt, Cond.instanceMethod yX1_ownerAt, Cond.selects RX1 yX1_ownerAt yX1_ownerAt]
def wsX4_tell_r4 : List Cond := [Cond.code yX1_ownerAt cX1_ownerAt 2 (some .int), Cond.methodLink RX1 49 yX2_headOf, Cond.instanceMethod yX2_headOf, Cond.selects RX2 yX2_headOf yX2_headOf, Cond.code yX2_headOf cX2_headOf 4 (some .int), Cond.methodLink RX2 42 yX3_at, Cond.methodLink RX1 61 yX2_isStruckOut, Cond.instanceMethod yX2_isStruckOut, Cond.selects RX2 yX2_isStruckOut yX2_isStruckOut, Cond.code yX2_isStruckOut cX2_isStruckOut 2 (some .boolean), Cond.methodLink RX4 155 yJ6_bitCount_0f7a4, Cond.static yJ6_bitCount_0f7a4, Cond.initialized RJ6, Cond.code yJ6_bitCount_0f7a4 cJ6_bitCount_0f7a4 1 (some .int), Cond.constant RJ6 265 (1431655765), Cond.constant RJ6 266 (858993459), Cond.constant RJ6 267 (252645135), Cond.methodLink RX4 133 yX0_isLost, Cond.instanceMethod yX0_isLost, Cond.selects RX0 yX0_isLost yX0_isLost, Cond.code yX0_isLost cX0_isLost 2 (some .boolean), Cond.methodLink RX0 35 yX3_at, Cond.methodLink RX4 108 yX4_oneIf, Cond.static yX4_oneIf]
def wsX4_tell_r5 : List Cond := [Cond.code yX4_oneIf cX4_oneIf 1 (some .int)]
def wsX4_tell : List Cond := .code yX4_tell cX4_tell 2 (some .int) :: ((wsX4_tell_r1 ++ (wsX4_tell_r2 ++ (wsX4_tell_r3 ++ (wsX4_tell_r4 ++ wsX4_tell_r5)))) ++ wsX40 ++ wsX20 ++ wsX30 ++ wsX00 ++ wsX10)
def wsX5_init_r1 : List Cond := [Cond.methodLink RX5 1 objectInit, Cond.instanceMethod objectInit, Cond.code objectInit ⟨#[0xb1]⟩ 1 none, Cond.arrayClass .int, Cond.fieldLink RX5 7 "OtherNamesModel" "marks" "[I", Cond.fieldLink RX5 13 "OtherNamesModel" "within" "[I", Cond.arrayClass .boolean, Cond.fieldLink RX5 16 "OtherNamesModel" "isStruck" "[Z", Cond.fieldLink RX5 20 "OtherNamesModel" "kind" "[I", Cond.fieldLink RX5 23 "OtherNamesModel" "span" "[I", Cond.fieldLink RX5 26 "OtherNamesModel" "seed" "[I", Cond.fieldLink RX5 29 "OtherNamesModel" "reasons" "[I", Cond.fieldLink RX5 32 "OtherNamesModel" "leastOf" "[I", Cond.fieldLink RX5 35 "OtherNamesModel" "many" "[I", Cond.fieldLink RX5 38 "OtherNamesModel" "isLost" "[Z", Cond.fieldLink RX5 41 "OtherNamesModel" "nameHouse" "[I", Cond.fieldLink RX5 44 "OtherNamesModel" "nameOf" "[I", Cond.fieldLink RX5 47 "OtherNamesModel" "owner" "[I", Cond.fieldLink RX5 50 "OtherNamesModel" "nameDay" "[I", Cond.fieldLink RX5 53 "OtherNamesModel" "nameSpan" "[I", Cond.fieldLink RX5 56 "OtherNamesModel" "bridgeFrom" "[I", Cond.fieldLink RX5 59 "OtherNamesModel" "bridgeTo" "[I", Cond.fieldLink RX5 62 "OtherNamesModel" "bridgeFirst" "[I", Cond.fieldLink RX5 65 "OtherNamesModel" "bridgeLast" "[I"]
def wsX5_init_r2 : List Cond := [Cond.fieldLink RX5 68 "OtherNamesModel" "entry" "[I"]
def wsX5_init : List Cond := .code yX5_init cX5_init 1 none :: ((wsX5_init_r1 ++ wsX5_init_r2) ++ wsX50)
def wsX5_in : List Cond := .code yX5_in cX5_in 3 (some .boolean) :: ([])
def wsX5_isPerson : List Cond := .code yX5_isPerson cX5_isPerson 2 (some .boolean) :: ([.fieldLink RX5 71 "OtherNamesModel" "people" "I"] ++ wsX50)
def wsX5_isMark : List Cond := .code yX5_isMark cX5_isMark 1 (some .boolean) :: ([])
def wsX5_person : List Cond := .code yX5_person cX5_person 5 (some .int) :: ([.fieldLink RX5 71 "OtherNamesModel" "people" "I", .fieldLink RX5 7 "OtherNamesModel" "marks" "[I", .fieldLink RX5 13 "OtherNamesModel" "within" "[I", .methodLink RX5 75 yX5_isMark, .static yX5_isMark, .initialized RX5, .code yX5_isMark cX5_isMark 1 (some .boolean)] ++ wsX50)
def wsX5_mark : List Cond := .code yX5_mark cX5_mark 4 (some .boolean) :: ([.fieldLink RX5 7 "OtherNamesModel" "marks" "[I", .methodLink RX5 79 yX5_isPerson, .instanceMethod yX5_isPerson, .selects RX5 yX5_isPerson yX5_isPerson, .initialized RX5, .code yX5_isPerson cX5_isPerson 2 (some .boolean), .fieldLink RX5 71 "OtherNamesModel" "people" "I", .methodLink RX5 82 yX5_in, .static yX5_in, .code yX5_in cX5_in 3 (some .boolean), .methodLink RX5 75 yX5_isMark, .static yX5_isMark, .code yX5_isMark cX5_isMark 1 (some .boolean)] ++ wsX50)
def wsX5_head : List Cond := .code yX5_head cX5_head 3 (some .int) :: ([.fieldLink RX5 13 "OtherNamesModel" "within" "[I"] ++ wsX50)
def wsX5_strikes : List Cond := .code yX5_strikes cX5_strikes 3 none :: ([.fieldLink RX5 71 "OtherNamesModel" "people" "I", .fieldLink RX5 16 "OtherNamesModel" "isStruck" "[Z", .methodLink RX5 86 yX5_head, .instanceMethod yX5_head, .selects RX5 yX5_head yX5_head, .initialized RX5, .code yX5_head cX5_head 3 (some .int), .fieldLink RX5 13 "OtherNamesModel" "within" "[I"] ++ wsX50)
def wsX5_one : List Cond := .code yX5_one cX5_one 4 (some .boolean) :: ([.fieldLink RX5 13 "OtherNamesModel" "within" "[I", .fieldLink RX5 16 "OtherNamesModel" "isStruck" "[Z", .methodLink RX5 79 yX5_isPerson, .instanceMethod yX5_isPerson, .selects RX5 yX5_isPerson yX5_isPerson, .initialized RX5, .code yX5_isPerson cX5_isPerson 2 (some .boolean), .fieldLink RX5 71 "OtherNamesModel" "people" "I", .methodLink RX5 90 yX5_strikes, .instanceMethod yX5_strikes, .selects RX5 yX5_strikes yX5_strikes, .code yX5_strikes cX5_strikes 3 none, .methodLink RX5 86 yX5_head, .instanceMethod yX5_head, .selects RX5 yX5_head yX5_head, .code yX5_head cX5_head 3 (some .int)] ++ wsX50)
def wsX5_part : List Cond := .code yX5_part cX5_part 2 (some .boolean) :: ([.fieldLink RX5 13 "OtherNamesModel" "within" "[I", .methodLink RX5 79 yX5_isPerson, .instanceMethod yX5_isPerson, .selects RX5 yX5_isPerson yX5_isPerson, .initialized RX5, .code yX5_isPerson cX5_isPerson 2 (some .boolean), .fieldLink RX5 71 "OtherNamesModel" "people" "I"] ++ wsX50)
def wsX5_strike : List Cond := .code yX5_strike cX5_strike 2 (some .boolean) :: ([.fieldLink RX5 16 "OtherNamesModel" "isStruck" "[Z", .methodLink RX5 79 yX5_isPerson, .instanceMethod yX5_isPerson, .selects RX5 yX5_isPerson yX5_isPerson, .initialized RX5, .code yX5_isPerson cX5_isPerson 2 (some .boolean), .fieldLink RX5 71 "OtherNamesModel" "people" "I", .methodLink RX5 86 yX5_head, .instanceMethod yX5_head, .selects RX5 yX5_head yX5_head, .code yX5_head cX5_head 3 (some .int), .fieldLink RX5 13 "OtherNamesModel" "within" "[I", .methodLink RX5 90 yX5_strikes, .instanceMethod yX5_strikes, .selects RX5 yX5_strikes yX5_strikes, .code yX5_strikes cX5_strikes 3 none] ++ wsX50)
def wsX5_day : List Cond := .code yX5_day cX5_day 2 (some .boolean) :: ([.fieldLink RX5 94 "OtherNamesModel" "now" "I"] ++ wsX50)
def wsX5_isHouse : List Cond := .code yX5_isHouse cX5_isHouse 2 (some .boolean) :: ([.fieldLink RX5 97 "OtherNamesModel" "houses" "I"] ++ wsX50)
def wsX5_house : List Cond := .code yX5_house cX5_house 6 (some .int) :: ([.fieldLink RX5 97 "OtherNamesModel" "houses" "I", .fieldLink RX5 20 "OtherNamesModel" "kind" "[I", .fieldLink RX5 23 "OtherNamesModel" "span" "[I", .fieldLink RX5 26 "OtherNamesModel" "seed" "[I", .fieldLink RX5 29 "OtherNamesModel" "reasons" "[I", .fieldLink RX5 32 "OtherNamesModel" "leastOf" "[I", .methodLink RX5 82 yX5_in, .static yX5_in, .initialized RX5, .code yX5_in cX5_in 3 (some .boolean)] ++ wsX50)
def wsX5_spanNow : List Cond := .code yX5_spanNow cX5_spanNow 2 (some .int) :: ([.fieldLink RX5 20 "OtherNamesModel" "kind" "[I", .fieldLink RX5 94 "OtherNamesModel" "now" "I", .fieldLink RX5 23 "OtherNamesModel" "span" "[I"] ++ wsX50)
def wsX5_firstOf : List Cond := .code yX5_firstOf cX5_firstOf 5 (some .int) :: ([.fieldLink RX5 100 "OtherNamesModel" "names" "I", .fieldLink RX5 41 "OtherNamesModel" "nameHouse" "[I", .fieldLink RX5 53 "OtherNamesModel" "nameSpan" "[I", .fieldLink RX5 47 "OtherNamesModel" "owner" "[I", .methodLink RX5 86 yX5_head, .instanceMethod yX5_head, .selects RX5 yX5_head yX5_head, .initialized RX5, .code yX5_head cX5_head 3 (some .int), .fieldLink RX5 13 "OtherNamesModel" "within" "[I"] ++ wsX50)
def wsX5_find : List Cond := .code yX5_find cX5_find 4 (some .int) :: ([.fieldLink RX5 100 "OtherNamesModel" "names" "I", .fieldLink RX5 41 "OtherNamesModel" "nameHouse" "[I", .fieldLink RX5 44 "OtherNamesModel" "nameOf" "[I"] ++ wsX50)
def wsX5_namesOf_r1 : List Cond := [Cond.fieldLink RX5 20 "OtherNamesModel" "kind" "[I", Cond.fieldLink RX5 100 "OtherNamesModel" "names" "I", Cond.fieldLink RX5 35 "OtherNamesModel" "many" "[I", Cond.fieldLink RX5 41 "OtherNamesModel" "nameHouse" "[I", Cond.fieldLink RX5 44 "OtherNamesModel" "nameOf" "[I", Cond.fieldLink RX5 26 "OtherNamesModel" "seed" "[I", Cond.fieldLink RX5 47 "OtherNamesModel" "owner" "[I", Cond.fieldLink RX5 50 "OtherNamesModel" "nameDay" "[I", Cond.fieldLink RX5 94 "OtherNamesModel" "now" "I", Cond.fieldLink RX5 53 "OtherNamesModel" "nameSpan" "[I", Cond.methodLink RX5 86 yX5_head, Cond.instanceMethod yX5_head, Cond.selects RX5 yX5_head yX5_head, Cond.initialized RX5, Cond.code yX5_head cX5_head 3 (some .int), Cond.fieldLink RX5 13 "OtherNamesModel" "within" "[I", Cond.methodLink RX5 103 yX5_spanNow, Cond.instanceMethod yX5_spanNow, Cond.selects RX5 yX5_spanNow yX5_spanNow, Cond.code yX5_spanNow cX5_spanNow 2 (some .int), Cond.fieldLink RX5 23 "OtherNamesModel" "span" "[I", Cond.methodLink RX5 106 yX5_firstOf, Cond.instanceMethod yX5_firstOf, Cond.selects RX5 yX5_firstOf yX5_firstOf]
def wsX5_namesOf_r2 : List Cond := [Cond.code yX5_firstOf cX5_firstOf 5 (some .int)]
def wsX5_namesOf : List Cond := .code yX5_namesOf cX5_namesOf 5 (some .int) :: ((wsX5_namesOf_r1 ++ wsX5_namesOf_r2) ++ wsX50)
def wsX5_name_r1 : List Cond := [Cond.fieldLink RX5 16 "OtherNamesModel" "isStruck" "[Z", Cond.fieldLink RX5 44 "OtherNamesModel" "nameOf" "[I", Cond.methodLink RX5 110 yX5_isHouse, Cond.instanceMethod yX5_isHouse, Cond.selects RX5 yX5_isHouse yX5_isHouse, Cond.initialized RX5, Cond.code yX5_isHouse cX5_isHouse 2 (some .boolean), Cond.fieldLink RX5 97 "OtherNamesModel" "houses" "I", Cond.methodLink RX5 79 yX5_isPerson, Cond.instanceMethod yX5_isPerson, Cond.selects RX5 yX5_isPerson yX5_isPerson, Cond.code yX5_isPerson cX5_isPerson 2 (some .boolean), Cond.fieldLink RX5 71 "OtherNamesModel" "people" "I", Cond.methodLink RX5 113 yX5_namesOf, Cond.instanceMethod yX5_namesOf, Cond.selects RX5 yX5_namesOf yX5_namesOf, Cond.code yX5_namesOf cX5_namesOf 5 (some .int), Cond.fieldLink RX5 20 "OtherNamesModel" "kind" "[I", Cond.fieldLink RX5 100 "OtherNamesModel" "names" "I", Cond.fieldLink RX5 35 "OtherNamesModel" "many" "[I", Cond.fieldLink RX5 41 "OtherNamesModel" "nameHouse" "[I", Cond.fieldLink RX5 26 "OtherNamesModel" "seed" "[I", Cond.fieldLink RX5 47 "OtherNamesModel" "owner" "[I", Cond.fieldLink RX5 50 "OtherNamesModel" "nameDay" "[I"]
def wsX5_name_r2 : List Cond := [Cond.fieldLink RX5 94 "OtherNamesModel" "now" "I", Cond.fieldLink RX5 53 "OtherNamesModel" "nameSpan" "[I", Cond.methodLink RX5 86 yX5_head, Cond.instanceMethod yX5_head, Cond.selects RX5 yX5_head yX5_head, Cond.code yX5_head cX5_head 3 (some .int), Cond.fieldLink RX5 13 "OtherNamesModel" "within" "[I", Cond.methodLink RX5 103 yX5_spanNow, Cond.instanceMethod yX5_spanNow, Cond.selects RX5 yX5_spanNow yX5_spanNow, Cond.code yX5_spanNow cX5_spanNow 2 (some .int), Cond.fieldLink RX5 23 "OtherNamesModel" "span" "[I", Cond.methodLink RX5 106 yX5_firstOf, Cond.instanceMethod yX5_firstOf, Cond.selects RX5 yX5_firstOf yX5_firstOf, Cond.code yX5_firstOf cX5_firstOf 5 (some .int)]
def wsX5_name : List Cond := .code yX5_name cX5_name 4 (some .int) :: ((wsX5_name_r1 ++ wsX5_name_r2) ++ wsX50)
def wsX5_leads_r1 : List Cond := [Cond.fieldLink RX5 20 "OtherNamesModel" "kind" "[I", Cond.fieldLink RX5 44 "OtherNamesModel" "nameOf" "[I", Cond.fieldLink RX5 53 "OtherNamesModel" "nameSpan" "[I", Cond.fieldLink RX5 47 "OtherNamesModel" "owner" "[I", Cond.methodLink RX5 110 yX5_isHouse, Cond.instanceMethod yX5_isHouse, Cond.selects RX5 yX5_isHouse yX5_isHouse, Cond.initialized RX5, Cond.code yX5_isHouse cX5_isHouse 2 (some .boolean), Cond.fieldLink RX5 97 "OtherNamesModel" "houses" "I", Cond.methodLink RX5 117 yX5_find, Cond.instanceMethod yX5_find, Cond.selects RX5 yX5_find yX5_find, Cond.code yX5_find cX5_find 4 (some .int), Cond.fieldLink RX5 100 "OtherNamesModel" "names" "I", Cond.fieldLink RX5 41 "OtherNamesModel" "nameHouse" "[I", Cond.methodLink RX5 86 yX5_head, Cond.instanceMethod yX5_head, Cond.selects RX5 yX5_head yX5_head, Cond.code yX5_head cX5_head 3 (some .int), Cond.fieldLink RX5 13 "OtherNamesModel" "within" "[I", Cond.methodLink RX5 106 yX5_firstOf, Cond.instanceMethod yX5_firstOf, Cond.selects RX5 yX5_firstOf yX5_firstOf]
def wsX5_leads_r2 : List Cond := [Cond.code yX5_firstOf cX5_firstOf 5 (some .int)]
def wsX5_leads : List Cond := .code yX5_leads cX5_leads 4 (some .int) :: ((wsX5_leads_r1 ++ wsX5_leads_r2) ++ wsX50)
def wsX5_bridge : List Cond := .code yX5_bridge cX5_bridge 5 (some .boolean) :: ([.fieldLink RX5 120 "OtherNamesModel" "bridges" "I", .fieldLink RX5 56 "OtherNamesModel" "bridgeFrom" "[I", .fieldLink RX5 59 "OtherNamesModel" "bridgeTo" "[I", .fieldLink RX5 62 "OtherNamesModel" "bridgeFirst" "[I", .fieldLink RX5 65 "OtherNamesModel" "bridgeLast" "[I", .methodLink RX5 110 yX5_isHouse, .instanceMethod yX5_isHouse, .selects RX5 yX5_isHouse yX5_isHouse, .initialized RX5, .code yX5_isHouse cX5_isHouse 2 (some .boolean), .fieldLink RX5 97 "OtherNamesModel" "houses" "I"] ++ wsX50)
def wsX5_isHeld : List Cond := .code yX5_isHeld cX5_isHeld 5 (some .boolean) :: ([.fieldLink RX5 120 "OtherNamesModel" "bridges" "I", .fieldLink RX5 56 "OtherNamesModel" "bridgeFrom" "[I", .fieldLink RX5 59 "OtherNamesModel" "bridgeTo" "[I", .fieldLink RX5 62 "OtherNamesModel" "bridgeFirst" "[I", .fieldLink RX5 65 "OtherNamesModel" "bridgeLast" "[I"] ++ wsX50)
def wsX5_holds : List Cond := .code yX5_holds cX5_holds 4 (some .int) :: ([.methodLink RX5 110 yX5_isHouse, .instanceMethod yX5_isHouse, .selects RX5 yX5_isHouse yX5_isHouse, .initialized RX5, .code yX5_isHouse cX5_isHouse 2 (some .boolean), .fieldLink RX5 97 "OtherNamesModel" "houses" "I", .methodLink RX5 82 yX5_in, .static yX5_in, .code yX5_in cX5_in 3 (some .boolean), .methodLink RX5 123 yX5_isHeld, .instanceMethod yX5_isHeld, .selects RX5 yX5_isHeld yX5_isHeld, .code yX5_isHeld cX5_isHeld 5 (some .boolean), .fieldLink RX5 120 "OtherNamesModel" "bridges" "I", .fieldLink RX5 56 "OtherNamesModel" "bridgeFrom" "[I", .fieldLink RX5 59 "OtherNamesModel" "bridgeTo" "[I", .fieldLink RX5 62 "OtherNamesModel" "bridgeFirst" "[I", .fieldLink RX5 65 "OtherNamesModel" "bridgeLast" "[I"] ++ wsX50)
def wsX5_writes : List Cond := .code yX5_writes cX5_writes 7 none :: ([.fieldLink RX5 126 "OtherNamesModel" "entries" "I", .fieldLink RX5 68 "OtherNamesModel" "entry" "[I", .fieldLink RX5 94 "OtherNamesModel" "now" "I"] ++ wsX50)
def wsX5_crossed_r1 : List Cond := [Cond.fieldLink RX5 94 "OtherNamesModel" "now" "I", Cond.fieldLink RX5 38 "OtherNamesModel" "isLost" "[Z", Cond.fieldLink RX5 16 "OtherNamesModel" "isStruck" "[Z", Cond.fieldLink RX5 47 "OtherNamesModel" "owner" "[I", Cond.fieldLink RX5 20 "OtherNamesModel" "kind" "[I", Cond.fieldLink RX5 53 "OtherNamesModel" "nameSpan" "[I", Cond.methodLink RX5 117 yX5_find, Cond.instanceMethod yX5_find, Cond.selects RX5 yX5_find yX5_find, Cond.initialized RX5, Cond.code yX5_find cX5_find 4 (some .int), Cond.fieldLink RX5 100 "OtherNamesModel" "names" "I", Cond.fieldLink RX5 41 "OtherNamesModel" "nameHouse" "[I", Cond.fieldLink RX5 44 "OtherNamesModel" "nameOf" "[I", Cond.methodLink RX5 123 yX5_isHeld, Cond.instanceMethod yX5_isHeld, Cond.selects RX5 yX5_isHeld yX5_isHeld, Cond.code yX5_isHeld cX5_isHeld 5 (some .boolean), Cond.fieldLink RX5 120 "OtherNamesModel" "bridges" "I", Cond.fieldLink RX5 56 "OtherNamesModel" "bridgeFrom" "[I", Cond.fieldLink RX5 59 "OtherNamesModel" "bridgeTo" "[I", Cond.fieldLink RX5 62 "OtherNamesModel" "bridgeFirst" "[I", Cond.fieldLink RX5 65 "OtherNamesModel" "bridgeLast" "[I", Cond.methodLink RX5 103 yX5_spanNow]
def wsX5_crossed_r2 : List Cond := [Cond.instanceMethod yX5_spanNow, Cond.selects RX5 yX5_spanNow yX5_spanNow, Cond.code yX5_spanNow cX5_spanNow 2 (some .int), Cond.fieldLink RX5 23 "OtherNamesModel" "span" "[I", Cond.methodLink RX5 113 yX5_namesOf, Cond.instanceMethod yX5_namesOf, Cond.selects RX5 yX5_namesOf yX5_namesOf, Cond.code yX5_namesOf cX5_namesOf 5 (some .int), Cond.fieldLink RX5 35 "OtherNamesModel" "many" "[I", Cond.fieldLink RX5 26 "OtherNamesModel" "seed" "[I", Cond.fieldLink RX5 50 "OtherNamesModel" "nameDay" "[I", Cond.methodLink RX5 86 yX5_head, Cond.instanceMethod yX5_head, Cond.selects RX5 yX5_head yX5_head, Cond.code yX5_head cX5_head 3 (some .int), Cond.fieldLink RX5 13 "OtherNamesModel" "within" "[I", Cond.methodLink RX5 106 yX5_firstOf, Cond.instanceMethod yX5_firstOf, Cond.selects RX5 yX5_firstOf yX5_firstOf, Cond.code yX5_firstOf cX5_firstOf 5 (some .int)]
def wsX5_crossed : List Cond := .code yX5_crossed cX5_crossed 5 (some .int) :: ((wsX5_crossed_r1 ++ wsX5_crossed_r2) ++ wsX50)
def wsX5_cross_r1 : List Cond := [Cond.fieldLink RX5 126 "OtherNamesModel" "entries" "I", Cond.fieldLink RX5 44 "OtherNamesModel" "nameOf" "[I", Cond.methodLink RX5 110 yX5_isHouse, Cond.instanceMethod yX5_isHouse, Cond.selects RX5 yX5_isHouse yX5_isHouse, Cond.initialized RX5, Cond.code yX5_isHouse cX5_isHouse 2 (some .boolean), Cond.fieldLink RX5 97 "OtherNamesModel" "houses" "I", Cond.methodLink RX5 82 yX5_in, Cond.static yX5_in, Cond.code yX5_in cX5_in 3 (some .boolean), Cond.methodLink RX5 129 yX5_crossed, Cond.instanceMethod yX5_crossed, Cond.selects RX5 yX5_crossed yX5_crossed, Cond.code yX5_crossed cX5_crossed 5 (some .int), Cond.fieldLink RX5 94 "OtherNamesModel" "now" "I", Cond.fieldLink RX5 38 "OtherNamesModel" "isLost" "[Z", Cond.fieldLink RX5 16 "OtherNamesModel" "isStruck" "[Z", Cond.fieldLink RX5 47 "OtherNamesModel" "owner" "[I", Cond.fieldLink RX5 20 "OtherNamesModel" "kind" "[I", Cond.fieldLink RX5 53 "OtherNamesModel" "nameSpan" "[I", Cond.methodLink RX5 117 yX5_find, Cond.instanceMethod yX5_find, Cond.selects RX5 yX5_find yX5_find]
def wsX5_cross_r2 : List Cond := [Cond.code yX5_find cX5_find 4 (some .int), Cond.fieldLink RX5 100 "OtherNamesModel" "names" "I", Cond.fieldLink RX5 41 "OtherNamesModel" "nameHouse" "[I", Cond.methodLink RX5 123 yX5_isHeld, Cond.instanceMethod yX5_isHeld, Cond.selects RX5 yX5_isHeld yX5_isHeld, Cond.code yX5_isHeld cX5_isHeld 5 (some .boolean), Cond.fieldLink RX5 120 "OtherNamesModel" "bridges" "I", Cond.fieldLink RX5 56 "OtherNamesModel" "bridgeFrom" "[I", Cond.fieldLink RX5 59 "OtherNamesModel" "bridgeTo" "[I", Cond.fieldLink RX5 62 "OtherNamesModel" "bridgeFirst" "[I", Cond.fieldLink RX5 65 "OtherNamesModel" "bridgeLast" "[I", Cond.methodLink RX5 103 yX5_spanNow, Cond.instanceMethod yX5_spanNow, Cond.selects RX5 yX5_spanNow yX5_spanNow, Cond.code yX5_spanNow cX5_spanNow 2 (some .int), Cond.fieldLink RX5 23 "OtherNamesModel" "span" "[I", Cond.methodLink RX5 113 yX5_namesOf, Cond.instanceMethod yX5_namesOf, Cond.selects RX5 yX5_namesOf yX5_namesOf, Cond.code yX5_namesOf cX5_namesOf 5 (some .int), Cond.fieldLink RX5 35 "OtherNamesModel" "many" "[I", Cond.fieldLink RX5 26 "OtherNamesModel" "seed" "[I", Cond.fieldLink RX5 50 "OtherNamesModel" "nameDay" "[I"]
def wsX5_cross_r3 : List Cond := [Cond.methodLink RX5 86 yX5_head, Cond.instanceMethod yX5_head, Cond.selects RX5 yX5_head yX5_head, Cond.code yX5_head cX5_head 3 (some .int), Cond.fieldLink RX5 13 "OtherNamesModel" "within" "[I", Cond.methodLink RX5 106 yX5_firstOf, Cond.instanceMethod yX5_firstOf, Cond.selects RX5 yX5_firstOf yX5_firstOf, Cond.code yX5_firstOf cX5_firstOf 5 (some .int), Cond.methodLink RX5 132 yX5_writes, Cond.instanceMethod yX5_writes, Cond.selects RX5 yX5_writes yX5_writes, Cond.code yX5_writes cX5_writes 7 none, Cond.fieldLink RX5 68 "OtherNamesModel" "entry" "[I"]
def wsX5_cross : List Cond := .code yX5_cross cX5_cross 6 (some .int) :: ((wsX5_cross_r1 ++ (wsX5_cross_r2 ++ wsX5_cross_r3)) ++ wsX50)
def wsX5_back_r1 : List Cond := [Cond.fieldLink RX5 126 "OtherNamesModel" "entries" "I", Cond.fieldLink RX5 29 "OtherNamesModel" "reasons" "[I", Cond.fieldLink RX5 38 "OtherNamesModel" "isLost" "[Z", Cond.fieldLink RX5 16 "OtherNamesModel" "isStruck" "[Z", Cond.fieldLink RX5 47 "OtherNamesModel" "owner" "[I", Cond.methodLink RX5 110 yX5_isHouse, Cond.instanceMethod yX5_isHouse, Cond.selects RX5 yX5_isHouse yX5_isHouse, Cond.initialized RX5, Cond.code yX5_isHouse cX5_isHouse 2 (some .boolean), Cond.fieldLink RX5 97 "OtherNamesModel" "houses" "I", Cond.methodLink RX5 82 yX5_in, Cond.static yX5_in, Cond.code yX5_in cX5_in 3 (some .boolean), Cond.methodLink RX5 117 yX5_find, Cond.instanceMethod yX5_find, Cond.selects RX5 yX5_find yX5_find, Cond.code yX5_find cX5_find 4 (some .int), Cond.fieldLink RX5 100 "OtherNamesModel" "names" "I", Cond.fieldLink RX5 41 "OtherNamesModel" "nameHouse" "[I", Cond.fieldLink RX5 44 "OtherNamesModel" "nameOf" "[I", Cond.methodLink RX5 132 yX5_writes, Cond.instanceMethod yX5_writes, Cond.selects RX5 yX5_writes yX5_writes]
def wsX5_back_r2 : List Cond := [Cond.code yX5_writes cX5_writes 7 none, Cond.fieldLink RX5 68 "OtherNamesModel" "entry" "[I", Cond.fieldLink RX5 94 "OtherNamesModel" "now" "I", Cond.methodLink RX5 86 yX5_head, Cond.instanceMethod yX5_head, Cond.selects RX5 yX5_head yX5_head, Cond.code yX5_head cX5_head 3 (some .int), Cond.fieldLink RX5 13 "OtherNamesModel" "within" "[I"]
def wsX5_back : List Cond := .code yX5_back cX5_back 8 (some .int) :: ((wsX5_back_r1 ++ wsX5_back_r2) ++ wsX50)
def wsX5_lose : List Cond := .code yX5_lose cX5_lose 2 (some .boolean) :: ([.fieldLink RX5 38 "OtherNamesModel" "isLost" "[Z", .methodLink RX5 110 yX5_isHouse, .instanceMethod yX5_isHouse, .selects RX5 yX5_isHouse yX5_isHouse, .initialized RX5, .code yX5_isHouse cX5_isHouse 2 (some .boolean), .fieldLink RX5 97 "OtherNamesModel" "houses" "I"] ++ wsX50)
def wsX5_anew : List Cond := .code yX5_anew cX5_anew 3 (some .boolean) :: ([.fieldLink RX5 38 "OtherNamesModel" "isLost" "[Z", .fieldLink RX5 26 "OtherNamesModel" "seed" "[I", .methodLink RX5 110 yX5_isHouse, .instanceMethod yX5_isHouse, .selects RX5 yX5_isHouse yX5_isHouse, .initialized RX5, .code yX5_isHouse cX5_isHouse 2 (some .boolean), .fieldLink RX5 97 "OtherNamesModel" "houses" "I"] ++ wsX50)
def wsX5_record : List Cond := .code yX5_record cX5_record 3 (some .int) :: ([.fieldLink RX5 126 "OtherNamesModel" "entries" "I", .fieldLink RX5 68 "OtherNamesModel" "entry" "[I", .methodLink RX5 82 yX5_in, .static yX5_in, .initialized RX5, .code yX5_in cX5_in 3 (some .boolean)] ++ wsX50)
def wsX5_knows : List Cond := .code yX5_knows cX5_knows 4 (some .boolean) :: ([.fieldLink RX5 16 "OtherNamesModel" "isStruck" "[Z", .fieldLink RX5 100 "OtherNamesModel" "names" "I", .fieldLink RX5 41 "OtherNamesModel" "nameHouse" "[I", .fieldLink RX5 47 "OtherNamesModel" "owner" "[I", .methodLink RX5 86 yX5_head, .instanceMethod yX5_head, .selects RX5 yX5_head yX5_head, .initialized RX5, .code yX5_head cX5_head 3 (some .int), .fieldLink RX5 13 "OtherNamesModel" "within" "[I"] ++ wsX50)
def wsX5_areAlike : List Cond := .code yX5_areAlike cX5_areAlike 6 (some .boolean) :: ([.fieldLink RX5 7 "OtherNamesModel" "marks" "[I"] ++ wsX50)
def wsX5_group : List Cond := .code yX5_group cX5_group 6 (some .int) :: ([.fieldLink RX5 71 "OtherNamesModel" "people" "I", .methodLink RX5 136 yX5_knows, .instanceMethod yX5_knows, .selects RX5 yX5_knows yX5_knows, .initialized RX5, .code yX5_knows cX5_knows 4 (some .boolean), .fieldLink RX5 16 "OtherNamesModel" "isStruck" "[Z", .fieldLink RX5 100 "OtherNamesModel" "names" "I", .fieldLink RX5 41 "OtherNamesModel" "nameHouse" "[I", .fieldLink RX5 47 "OtherNamesModel" "owner" "[I", .methodLink RX5 86 yX5_head, .instanceMethod yX5_head, .selects RX5 yX5_head yX5_head, .code yX5_head cX5_head 3 (some .int), .fieldLink RX5 13 "OtherNamesModel" "within" "[I", .methodLink RX5 140 yX5_areAlike, .instanceMethod yX5_areAlike, .selects RX5 yX5_areAlike yX5_areAlike, .code yX5_areAlike cX5_areAlike 6 (some .boolean), .fieldLink RX5 7 "OtherNamesModel" "marks" "[I"] ++ wsX50)
def wsX5_joins_r1 : List Cond := [Cond.fieldLink RX5 71 "OtherNamesModel" "people" "I", Cond.methodLink RX5 110 yX5_isHouse, Cond.instanceMethod yX5_isHouse, Cond.selects RX5 yX5_isHouse yX5_isHouse, Cond.initialized RX5, Cond.code yX5_isHouse cX5_isHouse 2 (some .boolean), Cond.fieldLink RX5 97 "OtherNamesModel" "houses" "I", Cond.methodLink RX5 82 yX5_in, Cond.static yX5_in, Cond.code yX5_in cX5_in 3 (some .boolean), Cond.methodLink RX5 136 yX5_knows, Cond.instanceMethod yX5_knows, Cond.selects RX5 yX5_knows yX5_knows, Cond.code yX5_knows cX5_knows 4 (some .boolean), Cond.fieldLink RX5 16 "OtherNamesModel" "isStruck" "[Z", Cond.fieldLink RX5 100 "OtherNamesModel" "names" "I", Cond.fieldLink RX5 41 "OtherNamesModel" "nameHouse" "[I", Cond.fieldLink RX5 47 "OtherNamesModel" "owner" "[I", Cond.methodLink RX5 86 yX5_head, Cond.instanceMethod yX5_head, Cond.selects RX5 yX5_head yX5_head, Cond.code yX5_head cX5_head 3 (some .int), Cond.fieldLink RX5 13 "OtherNamesModel" "within" "[I", Cond.methodLink RX5 143 yX5_group]
def wsX5_joins_r2 : List Cond := [Cond.instanceMethod yX5_group, Cond.selects RX5 yX5_group yX5_group, Cond.code yX5_group cX5_group 6 (some .int), Cond.methodLink RX5 140 yX5_areAlike, Cond.instanceMethod yX5_areAlike, Cond.selects RX5 yX5_areAlike yX5_areAlike, Cond.code yX5_areAlike cX5_areAlike 6 (some .boolean), Cond.fieldLink RX5 7 "OtherNamesModel" "marks" "[I"]
def wsX5_joins : List Cond := .code yX5_joins cX5_joins 6 (some .int) :: ((wsX5_joins_r1 ++ wsX5_joins_r2) ++ wsX50)
def wsX5_least_r1 : List Cond := [Cond.fieldLink RX5 71 "OtherNamesModel" "people" "I", Cond.methodLink RX5 110 yX5_isHouse, Cond.instanceMethod yX5_isHouse, Cond.selects RX5 yX5_isHouse yX5_isHouse, Cond.initialized RX5, Cond.code yX5_isHouse cX5_isHouse 2 (some .boolean), Cond.fieldLink RX5 97 "OtherNamesModel" "houses" "I", Cond.methodLink RX5 82 yX5_in, Cond.static yX5_in, Cond.code yX5_in cX5_in 3 (some .boolean), Cond.methodLink RX5 136 yX5_knows, Cond.instanceMethod yX5_knows, Cond.selects RX5 yX5_knows yX5_knows, Cond.code yX5_knows cX5_knows 4 (some .boolean), Cond.fieldLink RX5 16 "OtherNamesModel" "isStruck" "[Z", Cond.fieldLink RX5 100 "OtherNamesModel" "names" "I", Cond.fieldLink RX5 41 "OtherNamesModel" "nameHouse" "[I", Cond.fieldLink RX5 47 "OtherNamesModel" "owner" "[I", Cond.methodLink RX5 86 yX5_head, Cond.instanceMethod yX5_head, Cond.selects RX5 yX5_head yX5_head, Cond.code yX5_head cX5_head 3 (some .int), Cond.fieldLink RX5 13 "OtherNamesModel" "within" "[I", Cond.methodLink RX5 143 yX5_group]
def wsX5_least_r2 : List Cond := [Cond.instanceMethod yX5_group, Cond.selects RX5 yX5_group yX5_group, Cond.code yX5_group cX5_group 6 (some .int), Cond.methodLink RX5 140 yX5_areAlike, Cond.instanceMethod yX5_areAlike, Cond.selects RX5 yX5_areAlike yX5_areAlike, Cond.code yX5_areAlike cX5_areAlike 6 (some .boolean), Cond.fieldLink RX5 7 "OtherNamesModel" "marks" "[I"]
def wsX5_least : List Cond := .code yX5_least cX5_least 6 (some .int) :: ((wsX5_least_r1 ++ wsX5_least_r2) ++ wsX50)
def wsX5_count_r1 : List Cond := [Cond.fieldLink RX5 71 "OtherNamesModel" "people" "I", Cond.fieldLink RX5 7 "OtherNamesModel" "marks" "[I", Cond.fieldLink RX5 32 "OtherNamesModel" "leastOf" "[I", Cond.methodLink RX5 110 yX5_isHouse, Cond.instanceMethod yX5_isHouse, Cond.selects RX5 yX5_isHouse yX5_isHouse, Cond.initialized RX5, Cond.code yX5_isHouse cX5_isHouse 2 (some .boolean), Cond.fieldLink RX5 97 "OtherNamesModel" "houses" "I", Cond.methodLink RX5 82 yX5_in, Cond.static yX5_in, Cond.code yX5_in cX5_in 3 (some .boolean), Cond.methodLink RX5 75 yX5_isMark, Cond.static yX5_isMark, Cond.code yX5_isMark cX5_isMark 1 (some .boolean), Cond.methodLink RX5 136 yX5_knows, Cond.instanceMethod yX5_knows, Cond.selects RX5 yX5_knows yX5_knows, Cond.code yX5_knows cX5_knows 4 (some .boolean), Cond.fieldLink RX5 16 "OtherNamesModel" "isStruck" "[Z", Cond.fieldLink RX5 100 "OtherNamesModel" "names" "I", Cond.fieldLink RX5 41 "OtherNamesModel" "nameHouse" "[I", Cond.fieldLink RX5 47 "OtherNamesModel" "owner" "[I", Cond.methodLink RX5 86 yX5_head]
def wsX5_count_r2 : List Cond := [Cond.instanceMethod yX5_head, Cond.selects RX5 yX5_head yX5_head, Cond.code yX5_head cX5_head 3 (some .int), Cond.fieldLink RX5 13 "OtherNamesModel" "within" "[I"]
def wsX5_count : List Cond := .code yX5_count cX5_count 7 (some .int) :: ((wsX5_count_r1 ++ wsX5_count_r2) ++ wsX50)
def wsX5_given : List Cond := .code yX5_given cX5_given 3 (some .int) :: ([.fieldLink RX5 100 "OtherNamesModel" "names" "I", .fieldLink RX5 41 "OtherNamesModel" "nameHouse" "[I", .fieldLink RX5 44 "OtherNamesModel" "nameOf" "[I", .fieldLink RX5 47 "OtherNamesModel" "owner" "[I", .fieldLink RX5 50 "OtherNamesModel" "nameDay" "[I", .fieldLink RX5 53 "OtherNamesModel" "nameSpan" "[I"] ++ wsX50)
def wsX5_look : List Cond := .code yX5_look cX5_look 5 (some .int) :: ([.fieldLink RX5 13 "OtherNamesModel" "within" "[I", .fieldLink RX5 16 "OtherNamesModel" "isStruck" "[Z", .fieldLink RX5 100 "OtherNamesModel" "names" "I", .fieldLink RX5 47 "OtherNamesModel" "owner" "[I", .fieldLink RX5 7 "OtherNamesModel" "marks" "[I", .methodLink RX5 79 yX5_isPerson, .instanceMethod yX5_isPerson, .selects RX5 yX5_isPerson yX5_isPerson, .initialized RX5, .code yX5_isPerson cX5_isPerson 2 (some .boolean), .fieldLink RX5 71 "OtherNamesModel" "people" "I", .methodLink RX5 86 yX5_head, .instanceMethod yX5_head, .selects RX5 yX5_head yX5_head, .code yX5_head cX5_head 3 (some .int)] ++ wsX50)
def wsX5_known : List Cond := .code yX5_known cX5_known 4 (some .int) :: ([.fieldLink RX5 71 "OtherNamesModel" "people" "I", .methodLink RX5 136 yX5_knows, .instanceMethod yX5_knows, .selects RX5 yX5_knows yX5_knows, .initialized RX5, .code yX5_knows cX5_knows 4 (some .boolean), .fieldLink RX5 16 "OtherNamesModel" "isStruck" "[Z", .fieldLink RX5 100 "OtherNamesModel" "names" "I", .fieldLink RX5 41 "OtherNamesModel" "nameHouse" "[I", .fieldLink RX5 47 "OtherNamesModel" "owner" "[I", .methodLink RX5 86 yX5_head, .instanceMethod yX5_head, .selects RX5 yX5_head yX5_head, .code yX5_head cX5_head 3 (some .int), .fieldLink RX5 13 "OtherNamesModel" "within" "[I"] ++ wsX50)
def wsX5_tell_r1 : List Cond := [Cond.fieldLink RX5 71 "OtherNamesModel" "people" "I", Cond.fieldLink RX5 97 "OtherNamesModel" "houses" "I", Cond.fieldLink RX5 94 "OtherNamesModel" "now" "I", Cond.fieldLink RX5 100 "OtherNamesModel" "names" "I", Cond.fieldLink RX5 126 "OtherNamesModel" "entries" "I", Cond.fieldLink RX5 120 "OtherNamesModel" "bridges" "I", Cond.fieldLink RX5 35 "OtherNamesModel" "many" "[I", Cond.fieldLink RX5 38 "OtherNamesModel" "isLost" "[Z", Cond.methodLink RX5 146 yX5_known, Cond.instanceMethod yX5_known, Cond.selects RX5 yX5_known yX5_known, Cond.initialized RX5, Cond.code yX5_known cX5_known 4 (some .int), Cond.methodLink RX5 136 yX5_knows, Cond.instanceMethod yX5_knows, Cond.selects RX5 yX5_knows yX5_knows, Cond.code yX5_knows cX5_knows 4 (some .boolean), Cond.fieldLink RX5 16 "OtherNamesModel" "isStruck" "[Z", Cond.fieldLink RX5 41 "OtherNamesModel" "nameHouse" "[I", Cond.fieldLink RX5 47 "OtherNamesModel" "owner" "[I", Cond.methodLink RX5 86 yX5_head, Cond.instanceMethod yX5_head, Cond.selects RX5 yX5_head yX5_head, Cond.code yX5_head cX5_head 3 (some .int)]
def wsX5_tell_r2 : List Cond := [Cond.fieldLink RX5 13 "OtherNamesModel" "within" "[I"]
def wsX5_tell : List Cond := .code yX5_tell cX5_tell 2 (some .int) :: ((wsX5_tell_r1 ++ wsX5_tell_r2) ++ wsX50)
def wsJ9_max_7cf53 : List Cond := .code yJ9_max_7cf53 cJ9_max_7cf53 2 (some .int) :: ([])
def wsL_law_r1 : List Cond := [Cond.classLink RL 7 RX4, Cond.instantiable RX4 6, Cond.initialized RX4, Cond.classLink RL 10 RX5, Cond.instantiable RX5 26, Cond.initialized RX5, Cond.methodLink RL 9 yX4_init, Cond.instanceMethod yX4_init, Cond.code yX4_init cX4_init 1 none, Cond.methodLink RX4 1 objectInit, Cond.instanceMethod objectInit, Cond.code objectInit ⟨#[0xb1]⟩ 1 none, Cond.classLink RX4 7 RX2, Cond.instantiable RX2 1, Cond.initialized RX2, Cond.fieldLink RX4 10 "OtherNames" "people" "LOtherNames$People;", Cond.classLink RX4 16 RX0, Cond.instantiable RX0 1, Cond.initialized RX0, Cond.fieldLink RX4 19 "OtherNames" "houses" "LOtherNames$Houses;", Cond.classLink RX4 23 RX1, Cond.instantiable RX1 2, Cond.initialized RX1, Cond.fieldLink RX4 28 "OtherNames" "names" "LOtherNames$Names;"]
def wsL_law_r2 : List Cond := [Cond.classLink RX4 32 RX3, Cond.instantiable RX3 4, Cond.initialized RX3, Cond.fieldLink RX4 37 "OtherNames" "bridges" "LOtherNames$Rows;", Cond.fieldLink RX4 41 "OtherNames" "entries" "LOtherNames$Rows;", Cond.fieldLink RX4 44 "OtherNames" "today" "I", Cond.methodLink RX4 9 yX2_init, Cond.instanceMethod yX2_init, Cond.code yX2_init cX2_init 1 none, Cond.methodLink RX2 3 objectInit, Cond.classLink RX2 9 RX3, Cond.fieldLink RX2 16 "OtherNames$People" "rows" "LOtherNames$Rows;", Cond.methodLink RX2 13 yX3_init, Cond.instanceMethod yX3_init, Cond.code yX3_init cX3_init 3 none, Cond.methodLink RX3 3 objectInit, Cond.methodLink RX3 9 Lib.Math.max.name, Cond.static Lib.Math.max.name, Cond.initialized "java/lang/Math", Cond.code Lib.Math.max.name Lib.Math.max.code 2 (some .int), Cond.fieldLink RX3 15 "OtherNames$Rows" "most" "I", Cond.fieldLink RX3 21 "OtherNames$Rows" "width" "I", Cond.arrayClass .int, Cond.fieldLink RX3 24 "OtherNames$Rows" "cells" "[I"]
def wsL_law_r3 : List Cond := [Cond.fieldLink RX3 28 "OtherNames$Rows" "size" "I", Cond.methodLink RX4 18 yX0_init, Cond.instanceMethod yX0_init, Cond.code yX0_init cX0_init 1 none, Cond.methodLink RX0 3 objectInit, Cond.classLink RX0 9 RX3, Cond.fieldLink RX0 16 "OtherNames$Houses" "rows" "LOtherNames$Rows;", Cond.methodLink RX0 13 yX3_init, Cond.methodLink RX4 25 yX1_init, Cond.instanceMethod yX1_init, Cond.code yX1_init cX1_init 2 none, Cond.methodLink RX1 3 objectInit, Cond.classLink RX1 9 RX3, Cond.fieldLink RX1 16 "OtherNames$Names" "rows" "LOtherNames$Rows;", Cond.fieldLink RX1 20 "OtherNames$Names" "people" "LOtherNames$People;", Cond.methodLink RX1 13 yX3_init, Cond.methodLink RX4 34 yX3_init, Cond.methodLink RL 12 yX5_init, Cond.instanceMethod yX5_init, Cond.code yX5_init cX5_init 1 none, Cond.methodLink RX5 1 objectInit, Cond.fieldLink RX5 7 "OtherNamesModel" "marks" "[I", Cond.fieldLink RX5 13 "OtherNamesModel" "within" "[I", Cond.arrayClass .boolean]
def wsL_law_r4 : List Cond := [Cond.fieldLink RX5 16 "OtherNamesModel" "isStruck" "[Z", Cond.fieldLink RX5 20 "OtherNamesModel" "kind" "[I", Cond.fieldLink RX5 23 "OtherNamesModel" "span" "[I", Cond.fieldLink RX5 26 "OtherNamesModel" "seed" "[I", Cond.fieldLink RX5 29 "OtherNamesModel" "reasons" "[I", Cond.fieldLink RX5 32 "OtherNamesModel" "leastOf" "[I", Cond.fieldLink RX5 35 "OtherNamesModel" "many" "[I", Cond.fieldLink RX5 38 "OtherNamesModel" "isLost" "[Z", Cond.fieldLink RX5 41 "OtherNamesModel" "nameHouse" "[I", Cond.fieldLink RX5 44 "OtherNamesModel" "nameOf" "[I", Cond.fieldLink RX5 47 "OtherNamesModel" "owner" "[I", Cond.fieldLink RX5 50 "OtherNamesModel" "nameDay" "[I", Cond.fieldLink RX5 53 "OtherNamesModel" "nameSpan" "[I", Cond.fieldLink RX5 56 "OtherNamesModel" "bridgeFrom" "[I", Cond.fieldLink RX5 59 "OtherNamesModel" "bridgeTo" "[I", Cond.fieldLink RX5 62 "OtherNamesModel" "bridgeFirst" "[I", Cond.fieldLink RX5 65 "OtherNamesModel" "bridgeLast" "[I", Cond.fieldLink RX5 68 "OtherNamesModel" "entry" "[I", Cond.methodLink RL 13 yX4_person, Cond.instanceMethod yX4_person, Cond.selects RX4 yX4_person yX4_person, Cond.code yX4_person cX4_person 5 (some .int), Cond.methodLink RX4 48 yX2_add, Cond.instanceMethod yX2_add]
def wsL_law_r5 : List Cond := [Cond.selects RX2 yX2_add yX2_add, Cond.code yX2_add cX2_add 6 (some .int), Cond.methodLink RX2 28 yX2_isMarkNumber, Cond.static yX2_isMarkNumber, Cond.code yX2_isMarkNumber cX2_isMarkNumber 1 (some .boolean), Cond.methodLink RX2 31 yX3_addRow, Cond.instanceMethod yX3_addRow, Cond.selects RX3 yX3_addRow yX3_addRow, Cond.code yX3_addRow cX3_addRow 1 (some .int), Cond.methodLink RX3 31 yX3_isFull, Cond.instanceMethod yX3_isFull, Cond.selects RX3 yX3_isFull yX3_isFull, Cond.code yX3_isFull cX3_isFull 1 (some .boolean), Cond.methodLink RX2 34 yX3_put, Cond.instanceMethod yX3_put, Cond.selects RX3 yX3_put yX3_put, Cond.code yX3_put cX3_put 4 none, Cond.methodLink RX3 35 yX3_hasCell, Cond.instanceMethod yX3_hasCell, Cond.selects RX3 yX3_hasCell yX3_hasCell, Cond.code yX3_hasCell cX3_hasCell 3 (some .boolean), Cond.methodLink RL 17 yX5_person, Cond.instanceMethod yX5_person, Cond.selects RX5 yX5_person yX5_person]
def wsL_law_r6 : List Cond := [Cond.code yX5_person cX5_person 5 (some .int), Cond.fieldLink RX5 71 "OtherNamesModel" "people" "I", Cond.methodLink RX5 75 yX5_isMark, Cond.static yX5_isMark, Cond.code yX5_isMark cX5_isMark 1 (some .boolean), Cond.methodLink RL 18 yX4_mark, Cond.instanceMethod yX4_mark, Cond.selects RX4 yX4_mark yX4_mark, Cond.code yX4_mark cX4_mark 4 (some .boolean), Cond.methodLink RX4 52 yX2_setMark, Cond.instanceMethod yX2_setMark, Cond.selects RX2 yX2_setMark yX2_setMark, Cond.code yX2_setMark cX2_setMark 4 (some .boolean), Cond.methodLink RX2 38 yX2_isThere, Cond.instanceMethod yX2_isThere, Cond.selects RX2 yX2_isThere yX2_isThere, Cond.code yX2_isThere cX2_isThere 2 (some .boolean), Cond.methodLink RX2 24 yX3_isThere, Cond.instanceMethod yX3_isThere, Cond.selects RX3 yX3_isThere yX3_isThere, Cond.code yX3_isThere cX3_isThere 2 (some .boolean), Cond.methodLink RX2 39 yX2_isMark, Cond.static yX2_isMark, Cond.code yX2_isMark cX2_isMark 1 (some .boolean)]
def wsL_law_r7 : List Cond := [Cond.methodLink RL 22 yX5_mark, Cond.instanceMethod yX5_mark, Cond.selects RX5 yX5_mark yX5_mark, Cond.code yX5_mark cX5_mark 4 (some .boolean), Cond.methodLink RX5 79 yX5_isPerson, Cond.instanceMethod yX5_isPerson, Cond.selects RX5 yX5_isPerson yX5_isPerson, Cond.code yX5_isPerson cX5_isPerson 2 (some .boolean), Cond.methodLink RX5 82 yX5_in, Cond.static yX5_in, Cond.code yX5_in cX5_in 3 (some .boolean), Cond.methodLink RL 23 yX4_house, Cond.instanceMethod yX4_house, Cond.selects RX4 yX4_house yX4_house, Cond.code yX4_house cX4_house 6 (some .int), Cond.methodLink RX4 56 yX0_add, Cond.instanceMethod yX0_add, Cond.selects RX0 yX0_add yX0_add, Cond.code yX0_add cX0_add 7 (some .int), Cond.methodLink RX0 28 yX3_addRow, Cond.methodLink RX0 31 yX3_put, Cond.methodLink RL 27 yX5_house, Cond.instanceMethod yX5_house, Cond.selects RX5 yX5_house yX5_house]
def wsL_law_r8 : List Cond := [Cond.code yX5_house cX5_house 6 (some .int), Cond.fieldLink RX5 97 "OtherNamesModel" "houses" "I", Cond.methodLink RL 28 yX4_day, Cond.instanceMethod yX4_day, Cond.selects RX4 yX4_day yX4_day, Cond.code yX4_day cX4_day 2 (some .boolean), Cond.methodLink RX4 59 yX4_isDay, Cond.static yX4_isDay, Cond.code yX4_isDay cX4_isDay 1 (some .boolean), Cond.methodLink RL 32 yX5_day, Cond.instanceMethod yX5_day, Cond.selects RX5 yX5_day yX5_day, Cond.code yX5_day cX5_day 2 (some .boolean), Cond.fieldLink RX5 94 "OtherNamesModel" "now" "I", Cond.methodLink RL 33 yX4_one, Cond.instanceMethod yX4_one, Cond.selects RX4 yX4_one yX4_one, Cond.code yX4_one cX4_one 3 (some .boolean), Cond.methodLink RX4 63 yX2_join, Cond.instanceMethod yX2_join, Cond.selects RX2 yX2_join yX2_join, Cond.code yX2_join cX2_join 3 (some .boolean), Cond.methodLink RX2 46 yX2_isHead, Cond.instanceMethod yX2_isHead]
def wsL_law_r9 : List Cond := [Cond.selects RX2 yX2_isHead yX2_isHead, Cond.code yX2_isHead cX2_isHead 2 (some .boolean), Cond.methodLink RX2 56 yX2_holderOf, Cond.instanceMethod yX2_holderOf, Cond.selects RX2 yX2_holderOf yX2_holderOf, Cond.code yX2_holderOf cX2_holderOf 2 (some .int), Cond.methodLink RX2 42 yX3_at, Cond.instanceMethod yX3_at, Cond.selects RX3 yX3_at yX3_at, Cond.code yX3_at cX3_at 3 (some .int), Cond.methodLink RX2 49 yX2_isStruckOut, Cond.instanceMethod yX2_isStruckOut, Cond.selects RX2 yX2_isStruckOut yX2_isStruckOut, Cond.code yX2_isStruckOut cX2_isStruckOut 2 (some .boolean), Cond.methodLink RX2 52 yX2_strikeOutAllUnder, Cond.instanceMethod yX2_strikeOutAllUnder, Cond.selects RX2 yX2_strikeOutAllUnder yX2_strikeOutAllUnder, Cond.code yX2_strikeOutAllUnder cX2_strikeOutAllUnder 3 none, Cond.methodLink RX2 60 yX2_headOf, Cond.instanceMethod yX2_headOf, Cond.selects RX2 yX2_headOf yX2_headOf, Cond.code yX2_headOf cX2_headOf 4 (some .int), Cond.methodLink RL 37 yX5_one, Cond.instanceMethod yX5_one]
def wsL_law_r10 : List Cond := [Cond.selects RX5 yX5_one yX5_one, Cond.code yX5_one cX5_one 4 (some .boolean), Cond.methodLink RX5 90 yX5_strikes, Cond.instanceMethod yX5_strikes, Cond.selects RX5 yX5_strikes yX5_strikes, Cond.code yX5_strikes cX5_strikes 3 none, Cond.methodLink RX5 86 yX5_head, Cond.instanceMethod yX5_head, Cond.selects RX5 yX5_head yX5_head, Cond.code yX5_head cX5_head 3 (some .int), Cond.methodLink RL 38 yX4_part, Cond.instanceMethod yX4_part, Cond.selects RX4 yX4_part yX4_part, Cond.code yX4_part cX4_part 2 (some .boolean), Cond.methodLink RX4 67 yX2_leave, Cond.instanceMethod yX2_leave, Cond.selects RX2 yX2_leave yX2_leave, Cond.code yX2_leave cX2_leave 2 (some .boolean), Cond.methodLink RL 41 yX5_part, Cond.instanceMethod yX5_part, Cond.selects RX5 yX5_part yX5_part, Cond.code yX5_part cX5_part 2 (some .boolean), Cond.methodLink RL 42 yX4_strike, Cond.instanceMethod yX4_strike]
def wsL_law_r11 : List Cond := [Cond.selects RX4 yX4_strike yX4_strike, Cond.code yX4_strike cX4_strike 2 (some .boolean), Cond.methodLink RX4 70 yX2_strikeOut, Cond.instanceMethod yX2_strikeOut, Cond.selects RX2 yX2_strikeOut yX2_strikeOut, Cond.code yX2_strikeOut cX2_strikeOut 2 (some .boolean), Cond.methodLink RL 45 yX5_strike, Cond.instanceMethod yX5_strike, Cond.selects RX5 yX5_strike yX5_strike, Cond.code yX5_strike cX5_strike 2 (some .boolean), Cond.methodLink RL 46 yX4_name, Cond.instanceMethod yX4_name, Cond.selects RX4 yX4_name yX4_name, Cond.code yX4_name cX4_name 3 (some .int), Cond.methodLink RX4 73 yX0_isThere, Cond.instanceMethod yX0_isThere, Cond.selects RX0 yX0_isThere yX0_isThere, Cond.code yX0_isThere cX0_isThere 2 (some .boolean), Cond.methodLink RX0 24 yX3_isThere, Cond.methodLink RX4 76 yX2_isThere, Cond.methodLink RX4 77 yX2_isStruckOut, Cond.methodLink RX4 80 yX4_nameIn, Cond.instanceMethod yX4_nameIn, Cond.selects RX4 yX4_nameIn yX4_nameIn]
def wsL_law_r12 : List Cond := [Cond.code yX4_nameIn cX4_nameIn 7 (some .int), Cond.methodLink RX4 199 yX1_countGivenBy, Cond.instanceMethod yX1_countGivenBy, Cond.selects RX1 yX1_countGivenBy yX1_countGivenBy, Cond.code yX1_countGivenBy cX1_countGivenBy 2 (some .int), Cond.methodLink RX1 58 yX1_countWith, Cond.instanceMethod yX1_countWith, Cond.selects RX1 yX1_countWith yX1_countWith, Cond.code yX1_countWith cX1_countWith 5 (some .int), Cond.methodLink RX1 24 yX3_size, Cond.instanceMethod yX3_size, Cond.selects RX3 yX3_size yX3_size, Cond.code yX3_size cX3_size 1 (some .int), Cond.methodLink RX1 28 yX3_at, Cond.methodLink RX4 202 yX0_spanNumber, Cond.instanceMethod yX0_spanNumber, Cond.selects RX0 yX0_spanNumber yX0_spanNumber, Cond.code yX0_spanNumber cX0_spanNumber 5 (some .int), Cond.methodLink RX0 35 yX3_at, Cond.methodLink RX0 43 yX0_isSpanned, Cond.instanceMethod yX0_isSpanned, Cond.selects RX0 yX0_isSpanned yX0_isSpanned, Cond.code yX0_isSpanned cX0_isSpanned 2 (some .boolean), Cond.methodLink RX4 178 yX2_headOf]
def wsL_law_r13 : List Cond := [Cond.methodLink RX4 205 yX1_firstFor, Cond.instanceMethod yX1_firstFor, Cond.selects RX1 yX1_firstFor yX1_firstFor, Cond.code yX1_firstFor cX1_firstFor 6 (some .int), Cond.methodLink RX1 43 yX1_spanNumberAt, Cond.instanceMethod yX1_spanNumberAt, Cond.selects RX1 yX1_spanNumberAt yX1_spanNumberAt, Cond.code yX1_spanNumberAt cX1_spanNumberAt 2 (some .int), Cond.methodLink RX1 46 yX1_ownerAt, Cond.instanceMethod yX1_ownerAt, Cond.selects RX1 yX1_ownerAt yX1_ownerAt, Cond.code yX1_ownerAt cX1_ownerAt 2 (some .int), Cond.methodLink RX1 49 yX2_headOf, Cond.methodLink RX4 208 yX0_nameNumber, Cond.instanceMethod yX0_nameNumber, Cond.selects RX0 yX0_nameNumber yX0_nameNumber, Cond.code yX0_nameNumber cX0_nameNumber 3 (some .int), Cond.methodLink RX0 39 yX0_seedOf, Cond.instanceMethod yX0_seedOf, Cond.selects RX0 yX0_seedOf yX0_seedOf, Cond.code yX0_seedOf cX0_seedOf 2 (some .int), Cond.methodLink RX4 211 yX1_add, Cond.instanceMethod yX1_add, Cond.selects RX1 yX1_add yX1_add]
def wsL_law_r14 : List Cond := [Cond.code yX1_add cX1_add 7 (some .int), Cond.methodLink RX1 32 yX3_addRow, Cond.methodLink RX1 35 yX3_put, Cond.methodLink RX4 91 yX1_nameAt, Cond.instanceMethod yX1_nameAt, Cond.selects RX1 yX1_nameAt yX1_nameAt, Cond.code yX1_nameAt cX1_nameAt 2 (some .int), Cond.methodLink RL 50 yX5_name, Cond.instanceMethod yX5_name, Cond.selects RX5 yX5_name yX5_name, Cond.code yX5_name cX5_name 4 (some .int), Cond.methodLink RX5 110 yX5_isHouse, Cond.instanceMethod yX5_isHouse, Cond.selects RX5 yX5_isHouse yX5_isHouse, Cond.code yX5_isHouse cX5_isHouse 2 (some .boolean), Cond.methodLink RX5 113 yX5_namesOf, Cond.instanceMethod yX5_namesOf, Cond.selects RX5 yX5_namesOf yX5_namesOf, Cond.code yX5_namesOf cX5_namesOf 5 (some .int), Cond.fieldLink RX5 100 "OtherNamesModel" "names" "I", Cond.methodLink RX5 103 yX5_spanNow, Cond.instanceMethod yX5_spanNow, Cond.selects RX5 yX5_spanNow yX5_spanNow, Cond.code yX5_spanNow cX5_spanNow 2 (some .int)]
def wsL_law_r15 : List Cond := [Cond.methodLink RX5 106 yX5_firstOf, Cond.instanceMethod yX5_firstOf, Cond.selects RX5 yX5_firstOf yX5_firstOf, Cond.code yX5_firstOf cX5_firstOf 5 (some .int), Cond.methodLink RL 51 yX4_leads, Cond.instanceMethod yX4_leads, Cond.selects RX4 yX4_leads yX4_leads, Cond.code yX4_leads cX4_leads 4 (some .int), Cond.methodLink RX4 84 yX1_find, Cond.instanceMethod yX1_find, Cond.selects RX1 yX1_find yX1_find, Cond.code yX1_find cX1_find 4 (some .int), Cond.methodLink RX1 39 yX1_nameAt, Cond.methodLink RX4 87 yX1_leadsTo, Cond.instanceMethod yX1_leadsTo, Cond.selects RX1 yX1_leadsTo yX1_leadsTo, Cond.code yX1_leadsTo cX1_leadsTo 2 (some .int), Cond.methodLink RX1 54 yX1_firstFor, Cond.methodLink RL 54 yX5_leads, Cond.instanceMethod yX5_leads, Cond.selects RX5 yX5_leads yX5_leads, Cond.code yX5_leads cX5_leads 4 (some .int), Cond.methodLink RX5 117 yX5_find, Cond.instanceMethod yX5_find]
def wsL_law_r16 : List Cond := [Cond.selects RX5 yX5_find yX5_find, Cond.code yX5_find cX5_find 4 (some .int), Cond.methodLink RL 55 yX4_bridge, Cond.instanceMethod yX4_bridge, Cond.selects RX4 yX4_bridge yX4_bridge, Cond.code yX4_bridge cX4_bridge 6 (some .boolean), Cond.methodLink RX4 94 yX4_areTwoHouses, Cond.instanceMethod yX4_areTwoHouses, Cond.selects RX4 yX4_areTwoHouses yX4_areTwoHouses, Cond.code yX4_areTwoHouses cX4_areTwoHouses 3 (some .boolean), Cond.methodLink RX4 97 yX3_addRow, Cond.methodLink RX4 101 yX3_put, Cond.methodLink RL 59 yX5_bridge, Cond.instanceMethod yX5_bridge, Cond.selects RX5 yX5_bridge yX5_bridge, Cond.code yX5_bridge cX5_bridge 5 (some .boolean), Cond.fieldLink RX5 120 "OtherNamesModel" "bridges" "I", Cond.methodLink RL 60 yX4_holds, Cond.instanceMethod yX4_holds, Cond.selects RX4 yX4_holds yX4_holds, Cond.code yX4_holds cX4_holds 4 (some .int), Cond.methodLink RX4 105 yX4_isBridged, Cond.instanceMethod yX4_isBridged, Cond.selects RX4 yX4_isBridged yX4_isBridged]
def wsL_law_r17 : List Cond := [Cond.code yX4_isBridged cX4_isBridged 6 (some .boolean), Cond.methodLink RX4 195 yX3_size, Cond.methodLink RX4 172 yX3_at, Cond.methodLink RX4 108 yX4_oneIf, Cond.static yX4_oneIf, Cond.code yX4_oneIf cX4_oneIf 1 (some .int), Cond.methodLink RL 64 yX5_holds, Cond.instanceMethod yX5_holds, Cond.selects RX5 yX5_holds yX5_holds, Cond.code yX5_holds cX5_holds 4 (some .int), Cond.methodLink RX5 123 yX5_isHeld, Cond.instanceMethod yX5_isHeld, Cond.selects RX5 yX5_isHeld yX5_isHeld, Cond.code yX5_isHeld cX5_isHeld 5 (some .boolean), Cond.methodLink RL 65 yX4_cross, Cond.instanceMethod yX4_cross, Cond.selects RX4 yX4_cross yX4_cross, Cond.code yX4_cross cX4_cross 6 (some .int), Cond.methodLink RX4 112 yX4_isHand, Cond.static yX4_isHand, Cond.code yX4_isHand cX4_isHand 1 (some .boolean), Cond.methodLink RX4 115 yX3_isFull, Cond.methodLink RX4 119 yX4_crossWith, Cond.instanceMethod yX4_crossWith]
def wsL_law_r18 : List Cond := [Cond.selects RX4 yX4_crossWith yX4_crossWith, Cond.code yX4_crossWith cX4_crossWith 7 (some .int), Cond.methodLink RX4 133 yX0_isLost, Cond.instanceMethod yX0_isLost, Cond.selects RX0 yX0_isLost yX0_isLost, Cond.code yX0_isLost cX0_isLost 2 (some .boolean), Cond.methodLink RX4 212 yX1_ownerAt, Cond.methodLink RX4 215 yX0_isSpanned, Cond.methodLink RX4 218 yX1_spanNumberAt, Cond.methodLink RX4 123 yX4_enter, Cond.instanceMethod yX4_enter, Cond.selects RX4 yX4_enter yX4_enter, Cond.code yX4_enter cX4_enter 7 none, Cond.methodLink RL 68 yX5_cross, Cond.instanceMethod yX5_cross, Cond.selects RX5 yX5_cross yX5_cross, Cond.code yX5_cross cX5_cross 6 (some .int), Cond.fieldLink RX5 126 "OtherNamesModel" "entries" "I", Cond.methodLink RX5 129 yX5_crossed, Cond.instanceMethod yX5_crossed, Cond.selects RX5 yX5_crossed yX5_crossed, Cond.code yX5_crossed cX5_crossed 5 (some .int), Cond.methodLink RX5 132 yX5_writes, Cond.instanceMethod yX5_writes]
def wsL_law_r19 : List Cond := [Cond.selects RX5 yX5_writes yX5_writes, Cond.code yX5_writes cX5_writes 7 none, Cond.methodLink RL 69 yX4_back, Cond.instanceMethod yX4_back, Cond.selects RX4 yX4_back yX4_back, Cond.code yX4_back cX4_back 8 (some .int), Cond.methodLink RX4 127 yX4_isReason, Cond.static yX4_isReason, Cond.code yX4_isReason cX4_isReason 1 (some .boolean), Cond.methodLink RX4 130 yX0_reasonCounts, Cond.instanceMethod yX0_reasonCounts, Cond.selects RX0 yX0_reasonCounts yX0_reasonCounts, Cond.code yX0_reasonCounts cX0_reasonCounts 3 (some .boolean), Cond.methodLink RX4 136 yX4_headBehind, Cond.instanceMethod yX4_headBehind, Cond.selects RX4 yX4_headBehind yX4_headBehind, Cond.code yX4_headBehind cX4_headBehind 4 (some .int), Cond.methodLink RL 72 yX5_back, Cond.instanceMethod yX5_back, Cond.selects RX5 yX5_back yX5_back, Cond.code yX5_back cX5_back 8 (some .int), Cond.methodLink RL 73 yX4_lose, Cond.instanceMethod yX4_lose, Cond.selects RX4 yX4_lose yX4_lose]
def wsL_law_r20 : List Cond := [Cond.code yX4_lose cX4_lose 2 (some .boolean), Cond.methodLink RX4 139 yX0_setLost, Cond.instanceMethod yX0_setLost, Cond.selects RX0 yX0_setLost yX0_setLost, Cond.code yX0_setLost cX0_setLost 3 none, Cond.methodLink RL 76 yX5_lose, Cond.instanceMethod yX5_lose, Cond.selects RX5 yX5_lose yX5_lose, Cond.code yX5_lose cX5_lose 2 (some .boolean), Cond.methodLink RL 77 yX4_anew, Cond.instanceMethod yX4_anew, Cond.selects RX4 yX4_anew yX4_anew, Cond.code yX4_anew cX4_anew 3 (some .boolean), Cond.methodLink RX4 143 yX0_seedOf, Cond.methodLink RL 80 yX5_anew, Cond.instanceMethod yX5_anew, Cond.selects RX5 yX5_anew yX5_anew, Cond.code yX5_anew cX5_anew 3 (some .boolean), Cond.methodLink RL 81 yX4_joins, Cond.instanceMethod yX4_joins, Cond.selects RX4 yX4_joins yX4_joins, Cond.code yX4_joins cX4_joins 9 (some .int), Cond.methodLink RX4 146 yX4_areMarks, Cond.static yX4_areMarks]
def wsL_law_r21 : List Cond := [Cond.code yX4_areMarks cX4_areMarks 1 (some .boolean), Cond.methodLink RX4 149 yX1_knownTo, Cond.instanceMethod yX1_knownTo, Cond.selects RX1 yX1_knownTo yX1_knownTo, Cond.code yX1_knownTo cX1_knownTo 5 (some .int), Cond.methodLink RX1 61 yX2_isStruckOut, Cond.methodLink RX4 152 yX2_groupSize, Cond.instanceMethod yX2_groupSize, Cond.selects RX2 yX2_groupSize yX2_groupSize, Cond.code yX2_groupSize cX2_groupSize 6 (some .int), Cond.methodLink RX2 63 yX2_isAmong, Cond.static yX2_isAmong, Cond.code yX2_isAmong cX2_isAmong 2 (some .boolean), Cond.methodLink RX2 67 yX2_areAlike, Cond.instanceMethod yX2_areAlike, Cond.selects RX2 yX2_areAlike yX2_areAlike, Cond.code yX2_areAlike cX2_areAlike 5 (some .boolean), Cond.methodLink RX2 71 yX2_markOf, Cond.instanceMethod yX2_markOf, Cond.selects RX2 yX2_markOf yX2_markOf, Cond.code yX2_markOf cX2_markOf 3 (some .int), Cond.methodLink RL 84 yX5_joins, Cond.instanceMethod yX5_joins, Cond.selects RX5 yX5_joins yX5_joins]
def wsL_law_r22 : List Cond := [Cond.code yX5_joins cX5_joins 6 (some .int), Cond.methodLink RX5 136 yX5_knows, Cond.instanceMethod yX5_knows, Cond.selects RX5 yX5_knows yX5_knows, Cond.code yX5_knows cX5_knows 4 (some .boolean), Cond.methodLink RX5 143 yX5_group, Cond.instanceMethod yX5_group, Cond.selects RX5 yX5_group yX5_group, Cond.code yX5_group cX5_group 6 (some .int), Cond.methodLink RX5 140 yX5_areAlike, Cond.instanceMethod yX5_areAlike, Cond.selects RX5 yX5_areAlike yX5_areAlike, Cond.code yX5_areAlike cX5_areAlike 6 (some .boolean), Cond.methodLink RL 85 yX4_least, Cond.instanceMethod yX4_least, Cond.selects RX4 yX4_least yX4_least, Cond.code yX4_least cX4_least 7 (some .int), Cond.methodLink RX4 155 yJ6_bitCount_0f7a4, Cond.static yJ6_bitCount_0f7a4, Cond.initialized RJ6, Cond.code yJ6_bitCount_0f7a4 cJ6_bitCount_0f7a4 1 (some .int), Cond.constant RJ6 265 (1431655765), Cond.constant RJ6 266 (858993459), Cond.constant RJ6 267 (252645135)]
def wsL_law_r23 : List Cond := [Cond.methodLink RL 88 yX5_least, Cond.instanceMethod yX5_least, Cond.selects RX5 yX5_least yX5_least, Cond.code yX5_least cX5_least 6 (some .int), Cond.methodLink RL 89 yX4_count, Cond.instanceMethod yX4_count, Cond.selects RX4 yX4_count yX4_count, Cond.code yX4_count cX4_count 7 (some .int), Cond.methodLink RX4 160 yX2_isMark, Cond.methodLink RX4 163 yX2_isMarkNumber, Cond.methodLink RX4 166 yX2_countHaving, Cond.instanceMethod yX2_countHaving, Cond.selects RX2 yX2_countHaving yX2_countHaving, Cond.code yX2_countHaving cX2_countHaving 6 (some .int), Cond.methodLink RX4 169 yX4_isTooSmall, Cond.instanceMethod yX4_isTooSmall, Cond.selects RX4 yX4_isTooSmall yX4_isTooSmall, Cond.code yX4_isTooSmall cX4_isTooSmall 3 (some .boolean), Cond.methodLink RX4 221 yX0_leastOf, Cond.instanceMethod yX0_leastOf, Cond.selects RX0 yX0_leastOf yX0_leastOf, Cond.code yX0_leastOf cX0_leastOf 2 (some .int), Cond.methodLink RL 92 yX5_count, Cond.instanceMethod yX5_count]
def wsL_law_r24 : List Cond := [Cond.selects RX5 yX5_count yX5_count, Cond.code yX5_count cX5_count 7 (some .int), Cond.methodLink RL 93 yX4_record, Cond.instanceMethod yX4_record, Cond.selects RX4 yX4_record yX4_record, Cond.code yX4_record cX4_record 3 (some .int), Cond.methodLink RL 96 yX5_record, Cond.instanceMethod yX5_record, Cond.selects RX5 yX5_record yX5_record, Cond.code yX5_record cX5_record 3 (some .int), Cond.methodLink RL 97 yX4_given, Cond.instanceMethod yX4_given, Cond.selects RX4 yX4_given yX4_given, Cond.code yX4_given cX4_given 3 (some .int), Cond.methodLink RX4 175 yX1_cell, Cond.instanceMethod yX1_cell, Cond.selects RX1 yX1_cell yX1_cell, Cond.code yX1_cell cX1_cell 3 (some .int), Cond.methodLink RL 100 yX5_given, Cond.instanceMethod yX5_given, Cond.selects RX5 yX5_given yX5_given, Cond.code yX5_given cX5_given 3 (some .int), Cond.methodLink RL 101 yX4_look, Cond.instanceMethod yX4_look]
def wsL_law_r25 : List Cond := [Cond.selects RX4 yX4_look yX4_look, Cond.code yX4_look cX4_look 3 (some .int), Cond.methodLink RX4 181 yX2_holderOf, Cond.methodLink RX4 184 yX1_countOwnedBy, Cond.instanceMethod yX1_countOwnedBy, Cond.selects RX1 yX1_countOwnedBy yX1_countOwnedBy, Cond.code yX1_countOwnedBy cX1_countOwnedBy 2 (some .int), Cond.methodLink RX4 187 yX2_markOf, Cond.methodLink RL 104 yX5_look, Cond.instanceMethod yX5_look, Cond.selects RX5 yX5_look yX5_look, Cond.code yX5_look cX5_look 5 (some .int), Cond.methodLink RL 105 yX4_tell, Cond.instanceMethod yX4_tell, Cond.selects RX4 yX4_tell yX4_tell, Cond.code yX4_tell cX4_tell 2 (some .int), Cond.methodLink RX4 190 yX2_size, Cond.instanceMethod yX2_size, Cond.selects RX2 yX2_size yX2_size, Cond.code yX2_size cX2_size 1 (some .int), Cond.methodLink RX2 20 yX3_size, Cond.methodLink RX4 193 yX0_size, Cond.instanceMethod yX0_size, Cond.selects RX0 yX0_size yX0_size]
def wsL_law_r26 : List Cond := [Cond.code yX0_size cX0_size 1 (some .int), Cond.methodLink RX0 20 yX3_size, Cond.methodLink RX4 194 yX1_size, Cond.instanceMethod yX1_size, Cond.selects RX1 yX1_size yX1_size, Cond.code yX1_size cX1_size 1 (some .int), Cond.methodLink RX4 196 yX4_tellOfHouse, Cond.instanceMethod yX4_tellOfHouse, Cond.selects RX4 yX4_tellOfHouse yX4_tellOfHouse, Cond.code yX4_tellOfHouse cX4_tellOfHouse 3 (some .int), Cond.methodLink RL 109 yX5_tell, Cond.instanceMethod yX5_tell, Cond.selects RX5 yX5_tell yX5_tell, Cond.code yX5_tell cX5_tell 2 (some .int), Cond.methodLink RX5 146 yX5_known, Cond.instanceMethod yX5_known, Cond.selects RX5 yX5_known yX5_known, Cond.code yX5_known cX5_known 4 (some .int)]
def wsL_law : List Cond := (wsL_law_r1 ++ (wsL_law_r2 ++ (wsL_law_r3 ++ (wsL_law_r4 ++ (wsL_law_r5 ++ (wsL_law_r6 ++ (wsL_law_r7 ++ (wsL_law_r8 ++ (wsL_law_r9 ++ (wsL_law_r10 ++ (wsL_law_r11 ++ (wsL_law_r12 ++ (wsL_law_r13 ++ (wsL_law_r14 ++ (wsL_law_r15 ++ (wsL_law_r16 ++ (wsL_law_r17 ++ (wsL_law_r18 ++ (wsL_law_r19 ++ (wsL_law_r20 ++ (wsL_law_r21 ++ (wsL_law_r22 ++ (wsL_law_r23 ++ (wsL_law_r24 ++ (wsL_law_r25 ++ wsL_law_r26))))))))))))))))))))))))) ++ wsX40 ++ wsX50 ++ wsX20 ++ wsX00 ++ wsX10 ++ wsX30 ++ ([] : List Cond)
set_option maxRecDepth 20000 in
theorem wsL_law_in : ∀ w ∈ wsL_law, w ∈ lw_tbl := fun w h => (goodIn_p wsL_law [41, 44, 49, 55, 59, 82, 94, 497, 129, 133, 136, 140, 144, 148, 152, 582, 585, 156, 160, 164, 168, 171, 589, 593, 596, 175, 179, 624, 185, 188, 620, 192, 196, 200, 204, 208, 212, 216, 220, 600, 604, 608, 224, 228, 612, 232, 236, 616, 240, 244, 251, 255, 259, 263, 268, 273, 278, 282, 286, 291, 295, 299, 305, 628, 632, 636, 640, 644, 309, 313, 318, 648, 652, 323, 327, 656, 333, 337, 342, 660, 664, 346, 349, 354, 358, 365, 668, 672, 676, 369, 372, 376, 380, 680, 384, 388, 684, 392, 688, 397, 400, 404, 409, 412, 416, 420, 696, 700, 704, 708, 424, 427, 712, 434, 440, 444, 448, 716, 452, 692, 456, 460, 720, 464, 469, 724, 474, 478, 483, 488, 492, 728, 732] (by decide +kernel) (by decide +kernel) w h).1
theorem inlX0 : ∀ w ∈ wsX00, w ∈ wsL_law := fun _ h => List.mem_append_left _ (List.mem_append_left _ (List.mem_append_left _ (List.mem_append_right _ h)))
theorem inX0 : ∀ w ∈ wsX00, w ∈ lw_tbl := fun w h => wsL_law_in w (inlX0 w h)
theorem inlX1 : ∀ w ∈ wsX10, w ∈ wsL_law := fun _ h => List.mem_append_left _ (List.mem_append_left _ (List.mem_append_right _ h))
theorem inX1 : ∀ w ∈ wsX10, w ∈ lw_tbl := fun w h => wsL_law_in w (inlX1 w h)
theorem inlX2 : ∀ w ∈ wsX20, w ∈ wsL_law := fun _ h => List.mem_append_left _ (List.mem_append_left _ (List.mem_append_left _ (List.mem_append_left _ (List.mem_append_right _ h))))
theorem inX2 : ∀ w ∈ wsX20, w ∈ lw_tbl := fun w h => wsL_law_in w (inlX2 w h)
theorem inlX3 : ∀ w ∈ wsX30, w ∈ wsL_law := fun _ h => List.mem_append_left _ (List.mem_append_right _ h)
theorem inX3 : ∀ w ∈ wsX30, w ∈ lw_tbl := fun w h => wsL_law_in w (inlX3 w h)
theorem inlX4 : ∀ w ∈ wsX40, w ∈ wsL_law := fun _ h => List.mem_append_left _ (List.mem_append_left _ (List.mem_append_left _ (List.mem_append_left _ (List.mem_append_left _ (List.mem_append_left _ (List.mem_append_right _ h))))))
theorem inX4 : ∀ w ∈ wsX40, w ∈ lw_tbl := fun w h => wsL_law_in w (inlX4 w h)
theorem inlX5 : ∀ w ∈ wsX50, w ∈ wsL_law := fun _ h => List.mem_append_left _ (List.mem_append_left _ (List.mem_append_left _ (List.mem_append_left _ (List.mem_append_left _ (List.mem_append_right _ h)))))
theorem inX5 : ∀ w ∈ wsX50, w ∈ lw_tbl := fun w h => wsL_law_in w (inlX5 w h)
theorem inJ6 : ∀ w ∈ wsJ60, w ∈ lw_tbl := by decide +kernel
theorem inJ9 : ∀ w ∈ wsJ90, w ∈ lw_tbl := by decide +kernel
abbrev vwCl : List vw_C := [(RX0, TX0, 1), (RX1, TX1, 2), (RX2, TX2, 1), (RX3, TX3, 4), (RX4, TX4, 6), (RX5, TX5, 26)]
end
section
set_option maxRecDepth 20000 in
theorem ggX0_init_X3_init : GoodIn wsX0_init wsX3_init := goodIn_r _ [10, 11, 2, 3, 12, 13, 14, 15, 16, 17, 18, 19, 20, 21, 22, 23, 24] (by decide +kernel) (by decide +kernel)
set_option maxRecDepth 20000 in
theorem gX0_init_X3_init : GoodIn wsX0_init (wsX3_init) := ggX0_init_X3_init
theorem dX0_init_0 : decode cX0_init 0 = .ok (.aload_n 0, 1) := by decide +kernel
theorem dX0_init_1 : decode cX0_init 1 = .ok (.invokespecial 3, 3) := by decide +kernel
theorem dX0_init_4 : decode cX0_init 4 = .ok (.aload_n 0, 1) := by decide +kernel
theorem dX0_init_5 : decode cX0_init 5 = .ok (.new 9, 3) := by decide +kernel
theorem dX0_init_8 : decode cX0_init 8 = .ok (.dup, 1) := by decide +kernel
theorem dX0_init_9 : decode cX0_init 9 = .ok (.iconst 5, 1) := by decide +kernel
theorem dX0_init_10 : decode cX0_init 10 = .ok (.bipush 6, 2) := by decide +kernel
theorem dX0_init_12 : decode cX0_init 12 = .ok (.invokespecial 13, 3) := by decide +kernel
theorem dX0_init_15 : decode cX0_init 15 = .ok (.putfield 16, 3) := by decide +kernel
theorem dX0_init_18 : decode cX0_init 18 = .ok (.return_, 1) := by decide +kernel
set_option maxRecDepth 20000 in
theorem ggX0_size_X3_size : GoodIn wsX0_size wsX3_size := goodIn_r _ [6, 7, 9, 10, 11, 12] (by decide +kernel) (by decide +kernel)
set_option maxRecDepth 20000 in
theorem gX0_size_X3_size : GoodIn wsX0_size (wsV RX0 20 RX3 yX3_size wsX3_size) := goodIn_app (goodIn_of _ (by decide +kernel)) ggX0_size_X3_size
theorem dX0_size_0 : decode cX0_size 0 = .ok (.aload_n 0, 1) := by decide +kernel
theorem dX0_size_1 : decode cX0_size 1 = .ok (.getfield 16, 3) := by decide +kernel
theorem dX0_size_4 : decode cX0_size 4 = .ok (.invokevirtual 20, 3) := by decide +kernel
theorem dX0_size_7 : decode cX0_size 7 = .ok (.ireturn, 1) := by decide +kernel
set_option maxRecDepth 20000 in
theorem ggX0_isThere_X3_isThere : GoodIn wsX0_isThere wsX3_isThere := goodIn_r _ [6, 7, 9, 10, 11, 12] (by decide +kernel) (by decide +kernel)
set_option maxRecDepth 20000 in
theorem gX0_isThere_X3_isThere : GoodIn wsX0_isThere (wsV RX0 24 RX3 yX3_isThere wsX3_isThere) := goodIn_app (goodIn_of _ (by decide +kernel)) ggX0_isThere_X3_isThere
theorem dX0_isThere_0 : decode cX0_isThere 0 = .ok (.aload_n 0, 1) := by decide +kernel
theorem dX0_isThere_1 : decode cX0_isThere 1 = .ok (.getfield 16, 3) := by decide +kernel
theorem dX0_isThere_4 : decode cX0_isThere 4 = .ok (.iload_n 1, 1) := by decide +kernel
theorem dX0_isThere_5 : decode cX0_isThere 5 = .ok (.invokevirtual 24, 3) := by decide +kernel
theorem dX0_isThere_8 : decode cX0_isThere 8 = .ok (.ireturn, 1) := by decide +kernel
set_option maxRecDepth 20000 in
theorem ggX0_add_X3_addRow : GoodIn wsX0_add wsX3_addRow := goodIn_r _ [6, 7, 8, 9, 10, 5, 11, 12, 24, 25, 26, 27] (by decide +kernel) (by decide +kernel)
set_option maxRecDepth 20000 in
theorem gX0_add_X3_addRow : GoodIn wsX0_add (wsV RX0 28 RX3 yX3_addRow wsX3_addRow) := goodIn_app (goodIn_of _ (by decide +kernel)) ggX0_add_X3_addRow
set_option maxRecDepth 20000 in
theorem ggX0_add_X3_put : GoodIn wsX0_add wsX3_put := goodIn_r _ [16, 17, 18, 19, 20, 21, 5, 22, 7, 24, 25, 26, 27] (by decide +kernel) (by decide +kernel)
set_option maxRecDepth 20000 in
theorem gX0_add_X3_put : GoodIn wsX0_add (wsV RX0 31 RX3 yX3_put wsX3_put) := goodIn_app (goodIn_of _ (by decide +kernel)) ggX0_add_X3_put
theorem dX0_add_0 : decode cX0_add 0 = .ok (.iload_n 1, 1) := by decide +kernel
theorem dX0_add_1 : decode cX0_add 1 = .ok (.ifCond .lt 32, 3) := by decide +kernel
theorem dX0_add_4 : decode cX0_add 4 = .ok (.iload_n 1, 1) := by decide +kernel
theorem dX0_add_5 : decode cX0_add 5 = .ok (.iconst 2, 1) := by decide +kernel
theorem dX0_add_6 : decode cX0_add 6 = .ok (.if_icmp .gt 27, 3) := by decide +kernel
theorem dX0_add_9 : decode cX0_add 9 = .ok (.iload_n 2, 1) := by decide +kernel
theorem dX0_add_10 : decode cX0_add 10 = .ok (.iconst 1, 1) := by decide +kernel
theorem dX0_add_11 : decode cX0_add 11 = .ok (.if_icmp .lt 22, 3) := by decide +kernel
theorem dX0_add_14 : decode cX0_add 14 = .ok (.iload_n 2, 1) := by decide +kernel
theorem dX0_add_15 : decode cX0_add 15 = .ok (.sipush 365, 3) := by decide +kernel
theorem dX0_add_18 : decode cX0_add 18 = .ok (.if_icmp .gt 15, 3) := by decide +kernel
theorem dX0_add_21 : decode cX0_add 21 = .ok (.iload_n 3, 1) := by decide +kernel
theorem dX0_add_22 : decode cX0_add 22 = .ok (.iconst 1, 1) := by decide +kernel
theorem dX0_add_23 : decode cX0_add 23 = .ok (.if_icmp .lt 10, 3) := by decide +kernel
theorem dX0_add_26 : decode cX0_add 26 = .ok (.iload_n 3, 1) := by decide +kernel
theorem dX0_add_27 : decode cX0_add 27 = .ok (.sipush 9973, 3) := by decide +kernel
theorem dX0_add_30 : decode cX0_add 30 = .ok (.if_icmp .lt 5, 3) := by decide +kernel
theorem dX0_add_33 : decode cX0_add 33 = .ok (.iconst (-1), 1) := by decide +kernel
theorem dX0_add_34 : decode cX0_add 34 = .ok (.ireturn, 1) := by decide +kernel
theorem dX0_add_35 : decode cX0_add 35 = .ok (.iload 4, 2) := by decide +kernel
theorem dX0_add_37 : decode cX0_add 37 = .ok (.ifCond .lt 23, 3) := by decide +kernel
theorem dX0_add_40 : decode cX0_add 40 = .ok (.iload 4, 2) := by decide +kernel
theorem dX0_add_42 : decode cX0_add 42 = .ok (.sipush 255, 3) := by decide +kernel
theorem dX0_add_45 : decode cX0_add 45 = .ok (.if_icmp .gt 15, 3) := by decide +kernel
theorem dX0_add_48 : decode cX0_add 48 = .ok (.iload 5, 2) := by decide +kernel
theorem dX0_add_50 : decode cX0_add 50 = .ok (.ifCond .lt 10, 3) := by decide +kernel
theorem dX0_add_53 : decode cX0_add 53 = .ok (.iload 5, 2) := by decide +kernel
theorem dX0_add_55 : decode cX0_add 55 = .ok (.bipush 24, 2) := by decide +kernel
theorem dX0_add_57 : decode cX0_add 57 = .ok (.if_icmp .le 5, 3) := by decide +kernel
theorem dX0_add_60 : decode cX0_add 60 = .ok (.iconst (-1), 1) := by decide +kernel
theorem dX0_add_61 : decode cX0_add 61 = .ok (.ireturn, 1) := by decide +kernel
theorem dX0_add_62 : decode cX0_add 62 = .ok (.aload_n 0, 1) := by decide +kernel
theorem dX0_add_63 : decode cX0_add 63 = .ok (.getfield 16, 3) := by decide +kernel
theorem dX0_add_66 : decode cX0_add 66 = .ok (.invokevirtual 28, 3) := by decide +kernel
theorem dX0_add_69 : decode cX0_add 69 = .ok (.istore 6, 2) := by decide +kernel
theorem dX0_add_71 : decode cX0_add 71 = .ok (.aload_n 0, 1) := by decide +kernel
theorem dX0_add_72 : decode cX0_add 72 = .ok (.getfield 16, 3) := by decide +kernel
theorem dX0_add_75 : decode cX0_add 75 = .ok (.iload 6, 2) := by decide +kernel
theorem dX0_add_77 : decode cX0_add 77 = .ok (.iconst 0, 1) := by decide +kernel
theorem dX0_add_78 : decode cX0_add 78 = .ok (.iload_n 1, 1) := by decide +kernel
theorem dX0_add_79 : decode cX0_add 79 = .ok (.invokevirtual 31, 3) := by decide +kernel
theorem dX0_add_82 : decode cX0_add 82 = .ok (.aload_n 0, 1) := by decide +kernel
theorem dX0_add_83 : decode cX0_add 83 = .ok (.getfield 16, 3) := by decide +kernel
theorem dX0_add_86 : decode cX0_add 86 = .ok (.iload 6, 2) := by decide +kernel
theorem dX0_add_88 : decode cX0_add 88 = .ok (.iconst 1, 1) := by decide +kernel
theorem dX0_add_89 : decode cX0_add 89 = .ok (.iload_n 2, 1) := by decide +kernel
theorem dX0_add_90 : decode cX0_add 90 = .ok (.invokevirtual 31, 3) := by decide +kernel
theorem dX0_add_93 : decode cX0_add 93 = .ok (.aload_n 0, 1) := by decide +kernel
theorem dX0_add_94 : decode cX0_add 94 = .ok (.getfield 16, 3) := by decide +kernel
theorem dX0_add_97 : decode cX0_add 97 = .ok (.iload 6, 2) := by decide +kernel
theorem dX0_add_99 : decode cX0_add 99 = .ok (.iconst 2, 1) := by decide +kernel
theorem dX0_add_100 : decode cX0_add 100 = .ok (.iload_n 3, 1) := by decide +kernel
theorem dX0_add_101 : decode cX0_add 101 = .ok (.invokevirtual 31, 3) := by decide +kernel
theorem dX0_add_104 : decode cX0_add 104 = .ok (.aload_n 0, 1) := by decide +kernel
theorem dX0_add_105 : decode cX0_add 105 = .ok (.getfield 16, 3) := by decide +kernel
theorem dX0_add_108 : decode cX0_add 108 = .ok (.iload 6, 2) := by decide +kernel
theorem dX0_add_110 : decode cX0_add 110 = .ok (.iconst 3, 1) := by decide +kernel
theorem dX0_add_111 : decode cX0_add 111 = .ok (.iload 4, 2) := by decide +kernel
theorem dX0_add_113 : decode cX0_add 113 = .ok (.invokevirtual 31, 3) := by decide +kernel
theorem dX0_add_116 : decode cX0_add 116 = .ok (.aload_n 0, 1) := by decide +kernel
theorem dX0_add_117 : decode cX0_add 117 = .ok (.getfield 16, 3) := by decide +kernel
theorem dX0_add_120 : decode cX0_add 120 = .ok (.iload 6, 2) := by decide +kernel
theorem dX0_add_122 : decode cX0_add 122 = .ok (.iconst 4, 1) := by decide +kernel
theorem dX0_add_123 : decode cX0_add 123 = .ok (.iload 5, 2) := by decide +kernel
theorem dX0_add_125 : decode cX0_add 125 = .ok (.invokevirtual 31, 3) := by decide +kernel
theorem dX0_add_128 : decode cX0_add 128 = .ok (.aload_n 0, 1) := by decide +kernel
theorem dX0_add_129 : decode cX0_add 129 = .ok (.getfield 16, 3) := by decide +kernel
theorem dX0_add_132 : decode cX0_add 132 = .ok (.iload 6, 2) := by decide +kernel
theorem dX0_add_134 : decode cX0_add 134 = .ok (.iconst 5, 1) := by decide +kernel
theorem dX0_add_135 : decode cX0_add 135 = .ok (.iconst 0, 1) := by decide +kernel
theorem dX0_add_136 : decode cX0_add 136 = .ok (.invokevirtual 31, 3) := by decide +kernel
theorem dX0_add_139 : decode cX0_add 139 = .ok (.iload 6, 2) := by decide +kernel
theorem dX0_add_141 : decode cX0_add 141 = .ok (.ireturn, 1) := by decide +kernel
set_option maxRecDepth 20000 in
theorem ggX0_isSpanned_X3_at : GoodIn wsX0_isSpanned wsX3_at := goodIn_r _ [6, 7, 8, 9, 10, 11, 5, 12, 13, 15, 16, 17, 18] (by decide +kernel) (by decide +kernel)
set_option maxRecDepth 20000 in
theorem gX0_isSpanned_X3_at : GoodIn wsX0_isSpanned (wsV RX0 35 RX3 yX3_at wsX3_at) := goodIn_app (goodIn_of _ (by decide +kernel)) ggX0_isSpanned_X3_at
theorem dX0_isSpanned_0 : decode cX0_isSpanned 0 = .ok (.aload_n 0, 1) := by decide +kernel
theorem dX0_isSpanned_1 : decode cX0_isSpanned 1 = .ok (.getfield 16, 3) := by decide +kernel
theorem dX0_isSpanned_4 : decode cX0_isSpanned 4 = .ok (.iload_n 1, 1) := by decide +kernel
theorem dX0_isSpanned_5 : decode cX0_isSpanned 5 = .ok (.iconst 0, 1) := by decide +kernel
theorem dX0_isSpanned_6 : decode cX0_isSpanned 6 = .ok (.invokevirtual 35, 3) := by decide +kernel
theorem dX0_isSpanned_9 : decode cX0_isSpanned 9 = .ok (.iconst 1, 1) := by decide +kernel
theorem dX0_isSpanned_10 : decode cX0_isSpanned 10 = .ok (.if_icmp .ne 7, 3) := by decide +kernel
theorem dX0_isSpanned_13 : decode cX0_isSpanned 13 = .ok (.iconst 1, 1) := by decide +kernel
theorem dX0_isSpanned_14 : decode cX0_isSpanned 14 = .ok (.goto 4, 3) := by decide +kernel
theorem dX0_isSpanned_17 : decode cX0_isSpanned 17 = .ok (.iconst 0, 1) := by decide +kernel
theorem dX0_isSpanned_18 : decode cX0_isSpanned 18 = .ok (.ireturn, 1) := by decide +kernel
set_option maxRecDepth 20000 in
theorem ggX0_seedOf_X3_at : GoodIn wsX0_seedOf wsX3_at := goodIn_r _ [6, 7, 8, 9, 10, 11, 5, 12, 13, 15, 16, 17, 18] (by decide +kernel) (by decide +kernel)
set_option maxRecDepth 20000 in
theorem gX0_seedOf_X3_at : GoodIn wsX0_seedOf (wsV RX0 35 RX3 yX3_at wsX3_at) := goodIn_app (goodIn_of _ (by decide +kernel)) ggX0_seedOf_X3_at
theorem dX0_seedOf_0 : decode cX0_seedOf 0 = .ok (.aload_n 0, 1) := by decide +kernel
theorem dX0_seedOf_1 : decode cX0_seedOf 1 = .ok (.getfield 16, 3) := by decide +kernel
theorem dX0_seedOf_4 : decode cX0_seedOf 4 = .ok (.iload_n 1, 1) := by decide +kernel
theorem dX0_seedOf_5 : decode cX0_seedOf 5 = .ok (.iconst 2, 1) := by decide +kernel
theorem dX0_seedOf_6 : decode cX0_seedOf 6 = .ok (.invokevirtual 35, 3) := by decide +kernel
theorem dX0_seedOf_9 : decode cX0_seedOf 9 = .ok (.ireturn, 1) := by decide +kernel
set_option maxRecDepth 20000 in
theorem ggX0_leastOf_X3_at : GoodIn wsX0_leastOf wsX3_at := goodIn_r _ [6, 7, 8, 9, 10, 11, 5, 12, 13, 15, 16, 17, 18] (by decide +kernel) (by decide +kernel)
set_option maxRecDepth 20000 in
theorem gX0_leastOf_X3_at : GoodIn wsX0_leastOf (wsV RX0 35 RX3 yX3_at wsX3_at) := goodIn_app (goodIn_of _ (by decide +kernel)) ggX0_leastOf_X3_at
theorem dX0_leastOf_0 : decode cX0_leastOf 0 = .ok (.aload_n 0, 1) := by decide +kernel
theorem dX0_leastOf_1 : decode cX0_leastOf 1 = .ok (.getfield 16, 3) := by decide +kernel
theorem dX0_leastOf_4 : decode cX0_leastOf 4 = .ok (.iload_n 1, 1) := by decide +kernel
theorem dX0_leastOf_5 : decode cX0_leastOf 5 = .ok (.iconst 4, 1) := by decide +kernel
theorem dX0_leastOf_6 : decode cX0_leastOf 6 = .ok (.invokevirtual 35, 3) := by decide +kernel
theorem dX0_leastOf_9 : decode cX0_leastOf 9 = .ok (.ireturn, 1) := by decide +kernel
set_option maxRecDepth 20000 in
theorem ggX0_reasonCounts_X3_at : GoodIn wsX0_reasonCounts wsX3_at := goodIn_r _ [6, 7, 8, 9, 10, 11, 5, 12, 13, 15, 16, 17, 18] (by decide +kernel) (by decide +kernel)
set_option maxRecDepth 20000 in
theorem gX0_reasonCounts_X3_at : GoodIn wsX0_reasonCounts (wsV RX0 35 RX3 yX3_at wsX3_at) := goodIn_app (goodIn_of _ (by decide +kernel)) ggX0_reasonCounts_X3_at
theorem dX0_reasonCounts_0 : decode cX0_reasonCounts 0 = .ok (.aload_n 0, 1) := by decide +kernel
theorem dX0_reasonCounts_1 : decode cX0_reasonCounts 1 = .ok (.getfield 16, 3) := by decide +kernel
theorem dX0_reasonCounts_4 : decode cX0_reasonCounts 4 = .ok (.iload_n 1, 1) := by decide +kernel
theorem dX0_reasonCounts_5 : decode cX0_reasonCounts 5 = .ok (.iconst 3, 1) := by decide +kernel
theorem dX0_reasonCounts_6 : decode cX0_reasonCounts 6 = .ok (.invokevirtual 35, 3) := by decide +kernel
theorem dX0_reasonCounts_9 : decode cX0_reasonCounts 9 = .ok (.iload_n 2, 1) := by decide +kernel
theorem dX0_reasonCounts_10 : decode cX0_reasonCounts 10 = .ok (.ishr, 1) := by decide +kernel
theorem dX0_reasonCounts_11 : decode cX0_reasonCounts 11 = .ok (.iconst 1, 1) := by decide +kernel
theorem dX0_reasonCounts_12 : decode cX0_reasonCounts 12 = .ok (.iand, 1) := by decide +kernel
theorem dX0_reasonCounts_13 : decode cX0_reasonCounts 13 = .ok (.iconst 1, 1) := by decide +kernel
theorem dX0_reasonCounts_14 : decode cX0_reasonCounts 14 = .ok (.if_icmp .ne 7, 3) := by decide +kernel
theorem dX0_reasonCounts_17 : decode cX0_reasonCounts 17 = .ok (.iconst 1, 1) := by decide +kernel
theorem dX0_reasonCounts_18 : decode cX0_reasonCounts 18 = .ok (.goto 4, 3) := by decide +kernel
theorem dX0_reasonCounts_21 : decode cX0_reasonCounts 21 = .ok (.iconst 0, 1) := by decide +kernel
theorem dX0_reasonCounts_22 : decode cX0_reasonCounts 22 = .ok (.ireturn, 1) := by decide +kernel
set_option maxRecDepth 20000 in
theorem ggX0_isLost_X3_at : GoodIn wsX0_isLost wsX3_at := goodIn_r _ [6, 7, 8, 9, 10, 11, 5, 12, 13, 15, 16, 17, 18] (by decide +kernel) (by decide +kernel)
set_option maxRecDepth 20000 in
theorem gX0_isLost_X3_at : GoodIn wsX0_isLost (wsV RX0 35 RX3 yX3_at wsX3_at) := goodIn_app (goodIn_of _ (by decide +kernel)) ggX0_isLost_X3_at
theorem dX0_isLost_0 : decode cX0_isLost 0 = .ok (.aload_n 0, 1) := by decide +kernel
theorem dX0_isLost_1 : decode cX0_isLost 1 = .ok (.getfield 16, 3) := by decide +kernel
theorem dX0_isLost_4 : decode cX0_isLost 4 = .ok (.iload_n 1, 1) := by decide +kernel
theorem dX0_isLost_5 : decode cX0_isLost 5 = .ok (.iconst 5, 1) := by decide +kernel
theorem dX0_isLost_6 : decode cX0_isLost 6 = .ok (.invokevirtual 35, 3) := by decide +kernel
theorem dX0_isLost_9 : decode cX0_isLost 9 = .ok (.iconst 1, 1) := by decide +kernel
theorem dX0_isLost_10 : decode cX0_isLost 10 = .ok (.if_icmp .ne 7, 3) := by decide +kernel
theorem dX0_isLost_13 : decode cX0_isLost 13 = .ok (.iconst 1, 1) := by decide +kernel
theorem dX0_isLost_14 : decode cX0_isLost 14 = .ok (.goto 4, 3) := by decide +kernel
theorem dX0_isLost_17 : decode cX0_isLost 17 = .ok (.iconst 0, 1) := by decide +kernel
theorem dX0_isLost_18 : decode cX0_isLost 18 = .ok (.ireturn, 1) := by decide +kernel
set_option maxRecDepth 20000 in
theorem ggX0_setLost_X3_put : GoodIn wsX0_setLost wsX3_put := goodIn_r _ [6, 7, 8, 9, 10, 11, 5, 12, 13, 15, 16, 17, 18] (by decide +kernel) (by decide +kernel)
set_option maxRecDepth 20000 in
theorem gX0_setLost_X3_put : GoodIn wsX0_setLost (wsV RX0 31 RX3 yX3_put wsX3_put) := goodIn_app (goodIn_of _ (by decide +kernel)) ggX0_setLost_X3_put
theorem dX0_setLost_0 : decode cX0_setLost 0 = .ok (.aload_n 0, 1) := by decide +kernel
theorem dX0_setLost_1 : decode cX0_setLost 1 = .ok (.getfield 16, 3) := by decide +kernel
theorem dX0_setLost_4 : decode cX0_setLost 4 = .ok (.iload_n 1, 1) := by decide +kernel
theorem dX0_setLost_5 : decode cX0_setLost 5 = .ok (.iconst 5, 1) := by decide +kernel
theorem dX0_setLost_6 : decode cX0_setLost 6 = .ok (.iload_n 2, 1) := by decide +kernel
theorem dX0_setLost_7 : decode cX0_setLost 7 = .ok (.ifCond .eq 7, 3) := by decide +kernel
theorem dX0_setLost_10 : decode cX0_setLost 10 = .ok (.iconst 1, 1) := by decide +kernel
theorem dX0_setLost_11 : decode cX0_setLost 11 = .ok (.goto 4, 3) := by decide +kernel
theorem dX0_setLost_14 : decode cX0_setLost 14 = .ok (.iconst 0, 1) := by decide +kernel
theorem dX0_setLost_15 : decode cX0_setLost 15 = .ok (.invokevirtual 31, 3) := by decide +kernel
theorem dX0_setLost_18 : decode cX0_setLost 18 = .ok (.return_, 1) := by decide +kernel
set_option maxRecDepth 20000 in
theorem ggX0_nameNumber_X0_seedOf : GoodIn wsX0_nameNumber wsX0_seedOf := goodIn_r _ [5, 6, 7, 8, 9, 10, 11, 12, 13, 14, 15, 16, 17, 18, 19, 20, 21, 22, 23] (by decide +kernel) (by decide +kernel)
set_option maxRecDepth 20000 in
theorem gX0_nameNumber_X0_seedOf : GoodIn wsX0_nameNumber (wsV RX0 39 RX0 yX0_seedOf wsX0_seedOf) := goodIn_app (goodIn_of _ (by decide +kernel)) ggX0_nameNumber_X0_seedOf
theorem dX0_nameNumber_0 : decode cX0_nameNumber 0 = .ok (.aload_n 0, 1) := by decide +kernel
theorem dX0_nameNumber_1 : decode cX0_nameNumber 1 = .ok (.iload_n 1, 1) := by decide +kernel
theorem dX0_nameNumber_2 : decode cX0_nameNumber 2 = .ok (.invokevirtual 39, 3) := by decide +kernel
theorem dX0_nameNumber_5 : decode cX0_nameNumber 5 = .ok (.iload_n 2, 1) := by decide +kernel
theorem dX0_nameNumber_6 : decode cX0_nameNumber 6 = .ok (.imul, 1) := by decide +kernel
theorem dX0_nameNumber_7 : decode cX0_nameNumber 7 = .ok (.sipush 9973, 3) := by decide +kernel
theorem dX0_nameNumber_10 : decode cX0_nameNumber 10 = .ok (.irem, 1) := by decide +kernel
theorem dX0_nameNumber_11 : decode cX0_nameNumber 11 = .ok (.ireturn, 1) := by decide +kernel
set_option maxRecDepth 20000 in
theorem ggX0_spanNumber_X3_at : GoodIn wsX0_spanNumber wsX3_at := goodIn_r _ [6, 7, 8, 9, 10, 11, 5, 12, 13, 20, 21, 22, 23] (by decide +kernel) (by decide +kernel)
set_option maxRecDepth 20000 in
theorem gX0_spanNumber_X3_at : GoodIn wsX0_spanNumber (wsV RX0 35 RX3 yX3_at wsX3_at) := goodIn_app (goodIn_of _ (by decide +kernel)) ggX0_spanNumber_X3_at
set_option maxRecDepth 20000 in
theorem ggX0_spanNumber_X0_isSpanned : GoodIn wsX0_spanNumber wsX0_isSpanned := goodIn_r _ [18, 1, 2, 3, 4, 5, 6, 7, 8, 9, 10, 11, 12, 13, 19, 20, 21, 22, 23] (by decide +kernel) (by decide +kernel)
set_option maxRecDepth 20000 in
theorem gX0_spanNumber_X0_isSpanned : GoodIn wsX0_spanNumber (wsV RX0 43 RX0 yX0_isSpanned wsX0_isSpanned) := goodIn_app (goodIn_of _ (by decide +kernel)) ggX0_spanNumber_X0_isSpanned
theorem dX0_spanNumber_0 : decode cX0_spanNumber 0 = .ok (.aload_n 0, 1) := by decide +kernel
theorem dX0_spanNumber_1 : decode cX0_spanNumber 1 = .ok (.getfield 16, 3) := by decide +kernel
theorem dX0_spanNumber_4 : decode cX0_spanNumber 4 = .ok (.iload_n 1, 1) := by decide +kernel
theorem dX0_spanNumber_5 : decode cX0_spanNumber 5 = .ok (.iconst 0, 1) := by decide +kernel
theorem dX0_spanNumber_6 : decode cX0_spanNumber 6 = .ok (.invokevirtual 35, 3) := by decide +kernel
theorem dX0_spanNumber_9 : decode cX0_spanNumber 9 = .ok (.iconst 2, 1) := by decide +kernel
theorem dX0_spanNumber_10 : decode cX0_spanNumber 10 = .ok (.if_icmp .ne 5, 3) := by decide +kernel
theorem dX0_spanNumber_13 : decode cX0_spanNumber 13 = .ok (.iload_n 3, 1) := by decide +kernel
theorem dX0_spanNumber_14 : decode cX0_spanNumber 14 = .ok (.ireturn, 1) := by decide +kernel
theorem dX0_spanNumber_15 : decode cX0_spanNumber 15 = .ok (.aload_n 0, 1) := by decide +kernel
theorem dX0_spanNumber_16 : decode cX0_spanNumber 16 = .ok (.getfield 16, 3) := by decide +kernel
theorem dX0_spanNumber_19 : decode cX0_spanNumber 19 = .ok (.iload_n 1, 1) := by decide +kernel
theorem dX0_spanNumber_20 : decode cX0_spanNumber 20 = .ok (.iconst 1, 1) := by decide +kernel
theorem dX0_spanNumber_21 : decode cX0_spanNumber 21 = .ok (.invokevirtual 35, 3) := by decide +kernel
theorem dX0_spanNumber_24 : decode cX0_spanNumber 24 = .ok (.istore 4, 2) := by decide +kernel
theorem dX0_spanNumber_26 : decode cX0_spanNumber 26 = .ok (.aload_n 0, 1) := by decide +kernel
theorem dX0_spanNumber_27 : decode cX0_spanNumber 27 = .ok (.iload_n 1, 1) := by decide +kernel
theorem dX0_spanNumber_28 : decode cX0_spanNumber 28 = .ok (.invokevirtual 43, 3) := by decide +kernel
theorem dX0_spanNumber_31 : decode cX0_spanNumber 31 = .ok (.ifCond .eq 15, 3) := by decide +kernel
theorem dX0_spanNumber_34 : decode cX0_spanNumber 34 = .ok (.iload 4, 2) := by decide +kernel
theorem dX0_spanNumber_36 : decode cX0_spanNumber 36 = .ok (.ifCond .le 10, 3) := by decide +kernel
theorem dX0_spanNumber_39 : decode cX0_spanNumber 39 = .ok (.iload_n 2, 1) := by decide +kernel
theorem dX0_spanNumber_40 : decode cX0_spanNumber 40 = .ok (.iload 4, 2) := by decide +kernel
theorem dX0_spanNumber_42 : decode cX0_spanNumber 42 = .ok (.idiv, 1) := by decide +kernel
theorem dX0_spanNumber_43 : decode cX0_spanNumber 43 = .ok (.goto 4, 3) := by decide +kernel
theorem dX0_spanNumber_46 : decode cX0_spanNumber 46 = .ok (.iconst 0, 1) := by decide +kernel
theorem dX0_spanNumber_47 : decode cX0_spanNumber 47 = .ok (.ireturn, 1) := by decide +kernel
set_option maxRecDepth 20000 in
theorem ggX1_init_X3_init : GoodIn wsX1_init wsX3_init := goodIn_r _ [11, 12, 2, 3, 13, 14, 15, 16, 17, 18, 19, 20, 21, 22, 23, 24, 25] (by decide +kernel) (by decide +kernel)
set_option maxRecDepth 20000 in
theorem gX1_init_X3_init : GoodIn wsX1_init (wsX3_init) := ggX1_init_X3_init
theorem dX1_init_0 : decode cX1_init 0 = .ok (.aload_n 0, 1) := by decide +kernel
theorem dX1_init_1 : decode cX1_init 1 = .ok (.invokespecial 3, 3) := by decide +kernel
theorem dX1_init_4 : decode cX1_init 4 = .ok (.aload_n 0, 1) := by decide +kernel
theorem dX1_init_5 : decode cX1_init 5 = .ok (.new 9, 3) := by decide +kernel
theorem dX1_init_8 : decode cX1_init 8 = .ok (.dup, 1) := by decide +kernel
theorem dX1_init_9 : decode cX1_init 9 = .ok (.sipush 200, 3) := by decide +kernel
theorem dX1_init_12 : decode cX1_init 12 = .ok (.iconst 5, 1) := by decide +kernel
theorem dX1_init_13 : decode cX1_init 13 = .ok (.invokespecial 13, 3) := by decide +kernel
theorem dX1_init_16 : decode cX1_init 16 = .ok (.putfield 16, 3) := by decide +kernel
theorem dX1_init_19 : decode cX1_init 19 = .ok (.aload_n 0, 1) := by decide +kernel
theorem dX1_init_20 : decode cX1_init 20 = .ok (.aload_n 1, 1) := by decide +kernel
theorem dX1_init_21 : decode cX1_init 21 = .ok (.putfield 20, 3) := by decide +kernel
theorem dX1_init_24 : decode cX1_init 24 = .ok (.return_, 1) := by decide +kernel
set_option maxRecDepth 20000 in
theorem ggX1_size_X3_size : GoodIn wsX1_size wsX3_size := goodIn_r _ [6, 7, 10, 11, 12, 13] (by decide +kernel) (by decide +kernel)
set_option maxRecDepth 20000 in
theorem gX1_size_X3_size : GoodIn wsX1_size (wsV RX1 24 RX3 yX3_size wsX3_size) := goodIn_app (goodIn_of _ (by decide +kernel)) ggX1_size_X3_size
theorem dX1_size_0 : decode cX1_size 0 = .ok (.aload_n 0, 1) := by decide +kernel
theorem dX1_size_1 : decode cX1_size 1 = .ok (.getfield 16, 3) := by decide +kernel
theorem dX1_size_4 : decode cX1_size 4 = .ok (.invokevirtual 24, 3) := by decide +kernel
theorem dX1_size_7 : decode cX1_size 7 = .ok (.ireturn, 1) := by decide +kernel
set_option maxRecDepth 20000 in
theorem ggX1_cell_X3_at : GoodIn wsX1_cell wsX3_at := goodIn_r _ [6, 7, 8, 9, 10, 11, 5, 12, 13, 16, 17, 18, 19] (by decide +kernel) (by decide +kernel)
set_option maxRecDepth 20000 in
theorem gX1_cell_X3_at : GoodIn wsX1_cell (wsV RX1 28 RX3 yX3_at wsX3_at) := goodIn_app (goodIn_of _ (by decide +kernel)) ggX1_cell_X3_at
theorem dX1_cell_0 : decode cX1_cell 0 = .ok (.aload_n 0, 1) := by decide +kernel
theorem dX1_cell_1 : decode cX1_cell 1 = .ok (.getfield 16, 3) := by decide +kernel
theorem dX1_cell_4 : decode cX1_cell 4 = .ok (.iload_n 1, 1) := by decide +kernel
theorem dX1_cell_5 : decode cX1_cell 5 = .ok (.iload_n 2, 1) := by decide +kernel
theorem dX1_cell_6 : decode cX1_cell 6 = .ok (.invokevirtual 28, 3) := by decide +kernel
theorem dX1_cell_9 : decode cX1_cell 9 = .ok (.ireturn, 1) := by decide +kernel
set_option maxRecDepth 20000 in
theorem ggX1_nameAt_X3_at : GoodIn wsX1_nameAt wsX3_at := goodIn_r _ [6, 7, 8, 9, 10, 11, 5, 12, 13, 16, 17, 18, 19] (by decide +kernel) (by decide +kernel)
set_option maxRecDepth 20000 in
theorem gX1_nameAt_X3_at : GoodIn wsX1_nameAt (wsV RX1 28 RX3 yX3_at wsX3_at) := goodIn_app (goodIn_of _ (by decide +kernel)) ggX1_nameAt_X3_at
theorem dX1_nameAt_0 : decode cX1_nameAt 0 = .ok (.aload_n 0, 1) := by decide +kernel
theorem dX1_nameAt_1 : decode cX1_nameAt 1 = .ok (.getfield 16, 3) := by decide +kernel
theorem dX1_nameAt_4 : decode cX1_nameAt 4 = .ok (.iload_n 1, 1) := by decide +kernel
theorem dX1_nameAt_5 : decode cX1_nameAt 5 = .ok (.iconst 1, 1) := by decide +kernel
theorem dX1_nameAt_6 : decode cX1_nameAt 6 = .ok (.invokevirtual 28, 3) := by decide +kernel
theorem dX1_nameAt_9 : decode cX1_nameAt 9 = .ok (.ireturn, 1) := by decide +kernel
set_option maxRecDepth 20000 in
theorem ggX1_ownerAt_X3_at : GoodIn wsX1_ownerAt wsX3_at := goodIn_r _ [6, 7, 8, 9, 10, 11, 5, 12, 13, 16, 17, 18, 19] (by decide +kernel) (by decide +kernel)
set_option maxRecDepth 20000 in
theorem gX1_ownerAt_X3_at : GoodIn wsX1_ownerAt (wsV RX1 28 RX3 yX3_at wsX3_at) := goodIn_app (goodIn_of _ (by decide +kernel)) ggX1_ownerAt_X3_at
theorem dX1_ownerAt_0 : decode cX1_ownerAt 0 = .ok (.aload_n 0, 1) := by decide +kernel
theorem dX1_ownerAt_1 : decode cX1_ownerAt 1 = .ok (.getfield 16, 3) := by decide +kernel
theorem dX1_ownerAt_4 : decode cX1_ownerAt 4 = .ok (.iload_n 1, 1) := by decide +kernel
theorem dX1_ownerAt_5 : decode cX1_ownerAt 5 = .ok (.iconst 2, 1) := by decide +kernel
theorem dX1_ownerAt_6 : decode cX1_ownerAt 6 = .ok (.invokevirtual 28, 3) := by decide +kernel
theorem dX1_ownerAt_9 : decode cX1_ownerAt 9 = .ok (.ireturn, 1) := by decide +kernel
set_option maxRecDepth 20000 in
theorem ggX1_spanNumberAt_X3_at : GoodIn wsX1_spanNumberAt wsX3_at := goodIn_r _ [6, 7, 8, 9, 10, 11, 5, 12, 13, 16, 17, 18, 19] (by decide +kernel) (by decide +kernel)
set_option maxRecDepth 20000 in
theorem gX1_spanNumberAt_X3_at : GoodIn wsX1_spanNumberAt (wsV RX1 28 RX3 yX3_at wsX3_at) := goodIn_app (goodIn_of _ (by decide +kernel)) ggX1_spanNumberAt_X3_at
theorem dX1_spanNumberAt_0 : decode cX1_spanNumberAt 0 = .ok (.aload_n 0, 1) := by decide +kernel
theorem dX1_spanNumberAt_1 : decode cX1_spanNumberAt 1 = .ok (.getfield 16, 3) := by decide +kernel
theorem dX1_spanNumberAt_4 : decode cX1_spanNumberAt 4 = .ok (.iload_n 1, 1) := by decide +kernel
theorem dX1_spanNumberAt_5 : decode cX1_spanNumberAt 5 = .ok (.iconst 4, 1) := by decide +kernel
theorem dX1_spanNumberAt_6 : decode cX1_spanNumberAt 6 = .ok (.invokevirtual 28, 3) := by decide +kernel
theorem dX1_spanNumberAt_9 : decode cX1_spanNumberAt 9 = .ok (.ireturn, 1) := by decide +kernel
set_option maxRecDepth 20000 in
theorem ggX1_add_X3_addRow : GoodIn wsX1_add wsX3_addRow := goodIn_r _ [6, 7, 8, 9, 10, 5, 11, 12, 25, 26, 27, 28] (by decide +kernel) (by decide +kernel)
set_option maxRecDepth 20000 in
theorem gX1_add_X3_addRow : GoodIn wsX1_add (wsV RX1 32 RX3 yX3_addRow wsX3_addRow) := goodIn_app (goodIn_of _ (by decide +kernel)) ggX1_add_X3_addRow
set_option maxRecDepth 20000 in
theorem ggX1_add_X3_put : GoodIn wsX1_add wsX3_put := goodIn_r _ [16, 17, 18, 19, 20, 21, 5, 22, 7, 25, 26, 27, 28] (by decide +kernel) (by decide +kernel)
set_option maxRecDepth 20000 in
theorem gX1_add_X3_put : GoodIn wsX1_add (wsV RX1 35 RX3 yX3_put wsX3_put) := goodIn_app (goodIn_of _ (by decide +kernel)) ggX1_add_X3_put
theorem dX1_add_0 : decode cX1_add 0 = .ok (.aload_n 0, 1) := by decide +kernel
theorem dX1_add_1 : decode cX1_add 1 = .ok (.getfield 16, 3) := by decide +kernel
theorem dX1_add_4 : decode cX1_add 4 = .ok (.invokevirtual 32, 3) := by decide +kernel
theorem dX1_add_7 : decode cX1_add 7 = .ok (.istore 6, 2) := by decide +kernel
theorem dX1_add_9 : decode cX1_add 9 = .ok (.aload_n 0, 1) := by decide +kernel
theorem dX1_add_10 : decode cX1_add 10 = .ok (.getfield 16, 3) := by decide +kernel
theorem dX1_add_13 : decode cX1_add 13 = .ok (.iload 6, 2) := by decide +kernel
theorem dX1_add_15 : decode cX1_add 15 = .ok (.iconst 0, 1) := by decide +kernel
theorem dX1_add_16 : decode cX1_add 16 = .ok (.iload_n 1, 1) := by decide +kernel
theorem dX1_add_17 : decode cX1_add 17 = .ok (.invokevirtual 35, 3) := by decide +kernel
theorem dX1_add_20 : decode cX1_add 20 = .ok (.aload_n 0, 1) := by decide +kernel
theorem dX1_add_21 : decode cX1_add 21 = .ok (.getfield 16, 3) := by decide +kernel
theorem dX1_add_24 : decode cX1_add 24 = .ok (.iload 6, 2) := by decide +kernel
theorem dX1_add_26 : decode cX1_add 26 = .ok (.iconst 1, 1) := by decide +kernel
theorem dX1_add_27 : decode cX1_add 27 = .ok (.iload_n 2, 1) := by decide +kernel
theorem dX1_add_28 : decode cX1_add 28 = .ok (.invokevirtual 35, 3) := by decide +kernel
theorem dX1_add_31 : decode cX1_add 31 = .ok (.aload_n 0, 1) := by decide +kernel
theorem dX1_add_32 : decode cX1_add 32 = .ok (.getfield 16, 3) := by decide +kernel
theorem dX1_add_35 : decode cX1_add 35 = .ok (.iload 6, 2) := by decide +kernel
theorem dX1_add_37 : decode cX1_add 37 = .ok (.iconst 2, 1) := by decide +kernel
theorem dX1_add_38 : decode cX1_add 38 = .ok (.iload_n 3, 1) := by decide +kernel
theorem dX1_add_39 : decode cX1_add 39 = .ok (.invokevirtual 35, 3) := by decide +kernel
theorem dX1_add_42 : decode cX1_add 42 = .ok (.aload_n 0, 1) := by decide +kernel
theorem dX1_add_43 : decode cX1_add 43 = .ok (.getfield 16, 3) := by decide +kernel
theorem dX1_add_46 : decode cX1_add 46 = .ok (.iload 6, 2) := by decide +kernel
theorem dX1_add_48 : decode cX1_add 48 = .ok (.iconst 3, 1) := by decide +kernel
theorem dX1_add_49 : decode cX1_add 49 = .ok (.iload 4, 2) := by decide +kernel
theorem dX1_add_51 : decode cX1_add 51 = .ok (.invokevirtual 35, 3) := by decide +kernel
theorem dX1_add_54 : decode cX1_add 54 = .ok (.aload_n 0, 1) := by decide +kernel
theorem dX1_add_55 : decode cX1_add 55 = .ok (.getfield 16, 3) := by decide +kernel
theorem dX1_add_58 : decode cX1_add 58 = .ok (.iload 6, 2) := by decide +kernel
theorem dX1_add_60 : decode cX1_add 60 = .ok (.iconst 4, 1) := by decide +kernel
theorem dX1_add_61 : decode cX1_add 61 = .ok (.iload 5, 2) := by decide +kernel
theorem dX1_add_63 : decode cX1_add 63 = .ok (.invokevirtual 35, 3) := by decide +kernel
theorem dX1_add_66 : decode cX1_add 66 = .ok (.iload 6, 2) := by decide +kernel
theorem dX1_add_68 : decode cX1_add 68 = .ok (.ireturn, 1) := by decide +kernel
set_option maxRecDepth 20000 in
theorem ggX1_find_X3_size : GoodIn wsX1_find wsX3_size := goodIn_r _ [6, 7, 25, 26, 27, 28] (by decide +kernel) (by decide +kernel)
set_option maxRecDepth 20000 in
theorem gX1_find_X3_size : GoodIn wsX1_find (wsV RX1 24 RX3 yX3_size wsX3_size) := goodIn_app (goodIn_of _ (by decide +kernel)) ggX1_find_X3_size
set_option maxRecDepth 20000 in
theorem ggX1_find_X3_at : GoodIn wsX1_find wsX3_at := goodIn_r _ [11, 12, 13, 14, 15, 16, 5, 17, 7, 25, 26, 27, 28] (by decide +kernel) (by decide +kernel)
set_option maxRecDepth 20000 in
theorem gX1_find_X3_at : GoodIn wsX1_find (wsV RX1 28 RX3 yX3_at wsX3_at) := goodIn_app (goodIn_of _ (by decide +kernel)) ggX1_find_X3_at
set_option maxRecDepth 20000 in
theorem ggX1_find_X1_nameAt : GoodIn wsX1_find wsX1_nameAt := goodIn_r _ [22, 1, 8, 9, 10, 5, 11, 12, 13, 14, 15, 16, 17, 7, 23, 24, 25, 26, 27, 28] (by decide +kernel) (by decide +kernel)
set_option maxRecDepth 20000 in
theorem gX1_find_X1_nameAt : GoodIn wsX1_find (wsV RX1 39 RX1 yX1_nameAt wsX1_nameAt) := goodIn_app (goodIn_of _ (by decide +kernel)) ggX1_find_X1_nameAt
theorem dX1_find_0 : decode cX1_find 0 = .ok (.iconst 0, 1) := by decide +kernel
theorem dX1_find_1 : decode cX1_find 1 = .ok (.istore_n 3, 1) := by decide +kernel
theorem dX1_find_2 : decode cX1_find 2 = .ok (.iload_n 3, 1) := by decide +kernel
theorem dX1_find_3 : decode cX1_find 3 = .ok (.aload_n 0, 1) := by decide +kernel
theorem dX1_find_4 : decode cX1_find 4 = .ok (.getfield 16, 3) := by decide +kernel
theorem dX1_find_7 : decode cX1_find 7 = .ok (.invokevirtual 24, 3) := by decide +kernel
theorem dX1_find_10 : decode cX1_find 10 = .ok (.if_icmp .ge 33, 3) := by decide +kernel
theorem dX1_find_13 : decode cX1_find 13 = .ok (.aload_n 0, 1) := by decide +kernel
theorem dX1_find_14 : decode cX1_find 14 = .ok (.getfield 16, 3) := by decide +kernel
theorem dX1_find_17 : decode cX1_find 17 = .ok (.iload_n 3, 1) := by decide +kernel
theorem dX1_find_18 : decode cX1_find 18 = .ok (.iconst 0, 1) := by decide +kernel
theorem dX1_find_19 : decode cX1_find 19 = .ok (.invokevirtual 28, 3) := by decide +kernel
theorem dX1_find_22 : decode cX1_find 22 = .ok (.iload_n 1, 1) := by decide +kernel
theorem dX1_find_23 : decode cX1_find 23 = .ok (.if_icmp .ne 14, 3) := by decide +kernel
theorem dX1_find_26 : decode cX1_find 26 = .ok (.aload_n 0, 1) := by decide +kernel
theorem dX1_find_27 : decode cX1_find 27 = .ok (.iload_n 3, 1) := by decide +kernel
theorem dX1_find_28 : decode cX1_find 28 = .ok (.invokevirtual 39, 3) := by decide +kernel
theorem dX1_find_31 : decode cX1_find 31 = .ok (.iload_n 2, 1) := by decide +kernel
theorem dX1_find_32 : decode cX1_find 32 = .ok (.if_icmp .ne 5, 3) := by decide +kernel
theorem dX1_find_35 : decode cX1_find 35 = .ok (.iload_n 3, 1) := by decide +kernel
theorem dX1_find_36 : decode cX1_find 36 = .ok (.ireturn, 1) := by decide +kernel
theorem dX1_find_37 : decode cX1_find 37 = .ok (.iinc 3 1, 3) := by decide +kernel
theorem dX1_find_40 : decode cX1_find 40 = .ok (.goto (-38), 3) := by decide +kernel
theorem dX1_find_43 : decode cX1_find 43 = .ok (.iconst (-1), 1) := by decide +kernel
theorem dX1_find_44 : decode cX1_find 44 = .ok (.ireturn, 1) := by decide +kernel
set_option maxRecDepth 20000 in
theorem ggX1_firstFor_X3_size : GoodIn wsX1_firstFor wsX3_size := goodIn_r _ [7, 8, 37, 38, 39, 40] (by decide +kernel) (by decide +kernel)
set_option maxRecDepth 20000 in
theorem gX1_firstFor_X3_size : GoodIn wsX1_firstFor (wsV RX1 24 RX3 yX3_size wsX3_size) := goodIn_app (goodIn_of _ (by decide +kernel)) ggX1_firstFor_X3_size
set_option maxRecDepth 20000 in
theorem ggX1_firstFor_X3_at : GoodIn wsX1_firstFor wsX3_at := goodIn_r _ [12, 13, 14, 15, 16, 17, 6, 18, 8, 37, 38, 39, 40] (by decide +kernel) (by decide +kernel)
set_option maxRecDepth 20000 in
theorem gX1_firstFor_X3_at : GoodIn wsX1_firstFor (wsV RX1 28 RX3 yX3_at wsX3_at) := goodIn_app (goodIn_of _ (by decide +kernel)) ggX1_firstFor_X3_at
set_option maxRecDepth 20000 in
theorem ggX1_firstFor_X1_spanNumberAt : GoodIn wsX1_firstFor wsX1_spanNumberAt := goodIn_r _ [23, 1, 9, 10, 11, 6, 12, 13, 14, 15, 16, 17, 18, 8, 35, 36, 37, 38, 39, 40] (by decide +kernel) (by decide +kernel)
set_option maxRecDepth 20000 in
theorem gX1_firstFor_X1_spanNumberAt : GoodIn wsX1_firstFor (wsV RX1 43 RX1 yX1_spanNumberAt wsX1_spanNumberAt) := goodIn_app (goodIn_of _ (by decide +kernel)) ggX1_firstFor_X1_spanNumberAt
set_option maxRecDepth 20000 in
theorem ggX1_firstFor_X1_ownerAt : GoodIn wsX1_firstFor wsX1_ownerAt := goodIn_r _ [27, 1, 9, 10, 11, 6, 12, 13, 14, 15, 16, 17, 18, 8, 35, 36, 37, 38, 39, 40] (by decide +kernel) (by decide +kernel)
set_option maxRecDepth 20000 in
theorem gX1_firstFor_X1_ownerAt : GoodIn wsX1_firstFor (wsV RX1 46 RX1 yX1_ownerAt wsX1_ownerAt) := goodIn_app (goodIn_of _ (by decide +kernel)) ggX1_firstFor_X1_ownerAt
set_option maxRecDepth 20000 in
theorem ggX1_firstFor_X2_headOf : GoodIn wsX1_firstFor wsX2_headOf := goodIn_r _ [32, 33, 34, 10, 11, 6, 12, 13, 14, 15, 16, 17, 18, 8, 41, 37, 38, 39, 40] (by decide +kernel) (by decide +kernel)
set_option maxRecDepth 20000 in
theorem gX1_firstFor_X2_headOf : GoodIn wsX1_firstFor (wsV RX1 49 RX2 yX2_headOf wsX2_headOf) := goodIn_app (goodIn_of _ (by decide +kernel)) ggX1_firstFor_X2_headOf
theorem dX1_firstFor_0 : decode cX1_firstFor 0 = .ok (.iconst 0, 1) := by decide +kernel
theorem dX1_firstFor_1 : decode cX1_firstFor 1 = .ok (.istore 4, 2) := by decide +kernel
theorem dX1_firstFor_3 : decode cX1_firstFor 3 = .ok (.iload 4, 2) := by decide +kernel
theorem dX1_firstFor_5 : decode cX1_firstFor 5 = .ok (.aload_n 0, 1) := by decide +kernel
theorem dX1_firstFor_6 : decode cX1_firstFor 6 = .ok (.getfield 16, 3) := by decide +kernel
theorem dX1_firstFor_9 : decode cX1_firstFor 9 = .ok (.invokevirtual 24, 3) := by decide +kernel
theorem dX1_firstFor_12 : decode cX1_firstFor 12 = .ok (.if_icmp .ge 65, 3) := by decide +kernel
theorem dX1_firstFor_15 : decode cX1_firstFor 15 = .ok (.aload_n 0, 1) := by decide +kernel
theorem dX1_firstFor_16 : decode cX1_firstFor 16 = .ok (.getfield 16, 3) := by decide +kernel
theorem dX1_firstFor_19 : decode cX1_firstFor 19 = .ok (.iload 4, 2) := by decide +kernel
theorem dX1_firstFor_21 : decode cX1_firstFor 21 = .ok (.iconst 0, 1) := by decide +kernel
theorem dX1_firstFor_22 : decode cX1_firstFor 22 = .ok (.invokevirtual 28, 3) := by decide +kernel
theorem dX1_firstFor_25 : decode cX1_firstFor 25 = .ok (.iload_n 1, 1) := by decide +kernel
theorem dX1_firstFor_26 : decode cX1_firstFor 26 = .ok (.if_icmp .ne 17, 3) := by decide +kernel
theorem dX1_firstFor_29 : decode cX1_firstFor 29 = .ok (.aload_n 0, 1) := by decide +kernel
theorem dX1_firstFor_30 : decode cX1_firstFor 30 = .ok (.iload 4, 2) := by decide +kernel
theorem dX1_firstFor_32 : decode cX1_firstFor 32 = .ok (.invokevirtual 43, 3) := by decide +kernel
theorem dX1_firstFor_35 : decode cX1_firstFor 35 = .ok (.iload_n 2, 1) := by decide +kernel
theorem dX1_firstFor_36 : decode cX1_firstFor 36 = .ok (.if_icmp .ne 7, 3) := by decide +kernel
theorem dX1_firstFor_39 : decode cX1_firstFor 39 = .ok (.iconst 1, 1) := by decide +kernel
theorem dX1_firstFor_40 : decode cX1_firstFor 40 = .ok (.goto 4, 3) := by decide +kernel
theorem dX1_firstFor_43 : decode cX1_firstFor 43 = .ok (.iconst 0, 1) := by decide +kernel
theorem dX1_firstFor_44 : decode cX1_firstFor 44 = .ok (.istore 5, 2) := by decide +kernel
theorem dX1_firstFor_46 : decode cX1_firstFor 46 = .ok (.iload 5, 2) := by decide +kernel
theorem dX1_firstFor_48 : decode cX1_firstFor 48 = .ok (.ifCond .eq 23, 3) := by decide +kernel
theorem dX1_firstFor_51 : decode cX1_firstFor 51 = .ok (.aload_n 0, 1) := by decide +kernel
theorem dX1_firstFor_52 : decode cX1_firstFor 52 = .ok (.getfield 20, 3) := by decide +kernel
theorem dX1_firstFor_55 : decode cX1_firstFor 55 = .ok (.aload_n 0, 1) := by decide +kernel
theorem dX1_firstFor_56 : decode cX1_firstFor 56 = .ok (.iload 4, 2) := by decide +kernel
theorem dX1_firstFor_58 : decode cX1_firstFor 58 = .ok (.invokevirtual 46, 3) := by decide +kernel
theorem dX1_firstFor_61 : decode cX1_firstFor 61 = .ok (.invokevirtual 49, 3) := by decide +kernel
theorem dX1_firstFor_64 : decode cX1_firstFor 64 = .ok (.iload_n 3, 1) := by decide +kernel
theorem dX1_firstFor_65 : decode cX1_firstFor 65 = .ok (.if_icmp .ne 6, 3) := by decide +kernel
theorem dX1_firstFor_68 : decode cX1_firstFor 68 = .ok (.iload 4, 2) := by decide +kernel
theorem dX1_firstFor_70 : decode cX1_firstFor 70 = .ok (.ireturn, 1) := by decide +kernel
theorem dX1_firstFor_71 : decode cX1_firstFor 71 = .ok (.iinc 4 1, 3) := by decide +kernel
theorem dX1_firstFor_74 : decode cX1_firstFor 74 = .ok (.goto (-71), 3) := by decide +kernel
theorem dX1_firstFor_77 : decode cX1_firstFor 77 = .ok (.iconst (-1), 1) := by decide +kernel
theorem dX1_firstFor_78 : decode cX1_firstFor 78 = .ok (.ireturn, 1) := by decide +kernel
set_option maxRecDepth 20000 in
theorem ggX1_leadsTo_X3_at : GoodIn wsX1_leadsTo wsX3_at := goodIn_r _ [7, 8, 9, 10, 11, 12, 6, 13, 14, 41, 42, 43, 44] (by decide +kernel) (by decide +kernel)
set_option maxRecDepth 20000 in
theorem gX1_leadsTo_X3_at : GoodIn wsX1_leadsTo (wsV RX1 28 RX3 yX3_at wsX3_at) := goodIn_app (goodIn_of _ (by decide +kernel)) ggX1_leadsTo_X3_at
set_option maxRecDepth 20000 in
theorem ggX1_leadsTo_X1_spanNumberAt : GoodIn wsX1_leadsTo wsX1_spanNumberAt := goodIn_r _ [19, 1, 3, 4, 5, 6, 7, 8, 9, 10, 11, 12, 13, 14, 39, 40, 41, 42, 43, 44] (by decide +kernel) (by decide +kernel)
set_option maxRecDepth 20000 in
theorem gX1_leadsTo_X1_spanNumberAt : GoodIn wsX1_leadsTo (wsV RX1 43 RX1 yX1_spanNumberAt wsX1_spanNumberAt) := goodIn_app (goodIn_of _ (by decide +kernel)) ggX1_leadsTo_X1_spanNumberAt
set_option maxRecDepth 20000 in
theorem ggX1_leadsTo_X1_ownerAt : GoodIn wsX1_leadsTo wsX1_ownerAt := goodIn_r _ [23, 1, 3, 4, 5, 6, 7, 8, 9, 10, 11, 12, 13, 14, 39, 40, 41, 42, 43, 44] (by decide +kernel) (by decide +kernel)
set_option maxRecDepth 20000 in
theorem gX1_leadsTo_X1_ownerAt : GoodIn wsX1_leadsTo (wsV RX1 46 RX1 yX1_ownerAt wsX1_ownerAt) := goodIn_app (goodIn_of _ (by decide +kernel)) ggX1_leadsTo_X1_ownerAt
set_option maxRecDepth 20000 in
theorem ggX1_leadsTo_X2_headOf : GoodIn wsX1_leadsTo wsX2_headOf := goodIn_r _ [28, 29, 30, 4, 5, 6, 7, 8, 9, 10, 11, 12, 13, 14, 45, 41, 42, 43, 44] (by decide +kernel) (by decide +kernel)
set_option maxRecDepth 20000 in
theorem gX1_leadsTo_X2_headOf : GoodIn wsX1_leadsTo (wsV RX1 49 RX2 yX2_headOf wsX2_headOf) := goodIn_app (goodIn_of _ (by decide +kernel)) ggX1_leadsTo_X2_headOf
set_option maxRecDepth 20000 in
theorem ggX1_leadsTo_X1_firstFor : GoodIn wsX1_leadsTo wsX1_firstFor := goodIn_r _ [34, 1, 2, 35, 36, 37, 6, 38, 14, 3, 4, 5, 7, 8, 9, 10, 11, 12, 13, 15, 16, 17, 18, 19, 20, 21, 22, 23, 24, 25, 26, 27, 28, 29, 30, 39, 40, 41, 42, 43, 44, 45] (by decide +kernel) (by decide +kernel)
set_option maxRecDepth 20000 in
theorem gX1_leadsTo_X1_firstFor : GoodIn wsX1_leadsTo (wsV RX1 54 RX1 yX1_firstFor wsX1_firstFor) := goodIn_app (goodIn_of _ (by decide +kernel)) ggX1_leadsTo_X1_firstFor
theorem dX1_leadsTo_0 : decode cX1_leadsTo 0 = .ok (.aload_n 0, 1) := by decide +kernel
theorem dX1_leadsTo_1 : decode cX1_leadsTo 1 = .ok (.aload_n 0, 1) := by decide +kernel
theorem dX1_leadsTo_2 : decode cX1_leadsTo 2 = .ok (.getfield 16, 3) := by decide +kernel
theorem dX1_leadsTo_5 : decode cX1_leadsTo 5 = .ok (.iload_n 1, 1) := by decide +kernel
theorem dX1_leadsTo_6 : decode cX1_leadsTo 6 = .ok (.iconst 0, 1) := by decide +kernel
theorem dX1_leadsTo_7 : decode cX1_leadsTo 7 = .ok (.invokevirtual 28, 3) := by decide +kernel
theorem dX1_leadsTo_10 : decode cX1_leadsTo 10 = .ok (.aload_n 0, 1) := by decide +kernel
theorem dX1_leadsTo_11 : decode cX1_leadsTo 11 = .ok (.iload_n 1, 1) := by decide +kernel
theorem dX1_leadsTo_12 : decode cX1_leadsTo 12 = .ok (.invokevirtual 43, 3) := by decide +kernel
theorem dX1_leadsTo_15 : decode cX1_leadsTo 15 = .ok (.aload_n 0, 1) := by decide +kernel
theorem dX1_leadsTo_16 : decode cX1_leadsTo 16 = .ok (.getfield 20, 3) := by decide +kernel
theorem dX1_leadsTo_19 : decode cX1_leadsTo 19 = .ok (.aload_n 0, 1) := by decide +kernel
theorem dX1_leadsTo_20 : decode cX1_leadsTo 20 = .ok (.iload_n 1, 1) := by decide +kernel
theorem dX1_leadsTo_21 : decode cX1_leadsTo 21 = .ok (.invokevirtual 46, 3) := by decide +kernel
theorem dX1_leadsTo_24 : decode cX1_leadsTo 24 = .ok (.invokevirtual 49, 3) := by decide +kernel
theorem dX1_leadsTo_27 : decode cX1_leadsTo 27 = .ok (.invokevirtual 54, 3) := by decide +kernel
theorem dX1_leadsTo_30 : decode cX1_leadsTo 30 = .ok (.ireturn, 1) := by decide +kernel
set_option maxRecDepth 20000 in
theorem ggX1_countGivenBy_X1_countWith : GoodIn wsX1_countGivenBy wsX1_countWith := goodIn_r _ [5, 6, 7, 8, 9, 10, 11, 12, 13, 14, 15, 16, 17, 18, 19, 20, 21, 22, 23, 24, 25, 26, 27, 28] (by decide +kernel) (by decide +kernel)
set_option maxRecDepth 20000 in
theorem gX1_countGivenBy_X1_countWith : GoodIn wsX1_countGivenBy (wsV RX1 58 RX1 yX1_countWith wsX1_countWith) := goodIn_app (goodIn_of _ (by decide +kernel)) ggX1_countGivenBy_X1_countWith
theorem dX1_countGivenBy_0 : decode cX1_countGivenBy 0 = .ok (.aload_n 0, 1) := by decide +kernel
theorem dX1_countGivenBy_1 : decode cX1_countGivenBy 1 = .ok (.iconst 0, 1) := by decide +kernel
theorem dX1_countGivenBy_2 : decode cX1_countGivenBy 2 = .ok (.iload_n 1, 1) := by decide +kernel
theorem dX1_countGivenBy_3 : decode cX1_countGivenBy 3 = .ok (.invokevirtual 58, 3) := by decide +kernel
theorem dX1_countGivenBy_6 : decode cX1_countGivenBy 6 = .ok (.ireturn, 1) := by decide +kernel
set_option maxRecDepth 20000 in
theorem ggX1_countOwnedBy_X1_countWith : GoodIn wsX1_countOwnedBy wsX1_countWith := goodIn_r _ [5, 6, 7, 8, 9, 10, 11, 12, 13, 14, 15, 16, 17, 18, 19, 20, 21, 22, 23, 24, 25, 26, 27, 28] (by decide +kernel) (by decide +kernel)
set_option maxRecDepth 20000 in
theorem gX1_countOwnedBy_X1_countWith : GoodIn wsX1_countOwnedBy (wsV RX1 58 RX1 yX1_countWith wsX1_countWith) := goodIn_app (goodIn_of _ (by decide +kernel)) ggX1_countOwnedBy_X1_countWith
theorem dX1_countOwnedBy_0 : decode cX1_countOwnedBy 0 = .ok (.aload_n 0, 1) := by decide +kernel
theorem dX1_countOwnedBy_1 : decode cX1_countOwnedBy 1 = .ok (.iconst 2, 1) := by decide +kernel
theorem dX1_countOwnedBy_2 : decode cX1_countOwnedBy 2 = .ok (.iload_n 1, 1) := by decide +kernel
theorem dX1_countOwnedBy_3 : decode cX1_countOwnedBy 3 = .ok (.invokevirtual 58, 3) := by decide +kernel
theorem dX1_countOwnedBy_6 : decode cX1_countOwnedBy 6 = .ok (.ireturn, 1) := by decide +kernel
set_option maxRecDepth 20000 in
theorem ggX1_knownTo_X3_size : GoodIn wsX1_knownTo wsX3_size := goodIn_r _ [7, 8, 37, 38, 39, 40] (by decide +kernel) (by decide +kernel)
set_option maxRecDepth 20000 in
theorem gX1_knownTo_X3_size : GoodIn wsX1_knownTo (wsV RX1 24 RX3 yX3_size wsX3_size) := goodIn_app (goodIn_of _ (by decide +kernel)) ggX1_knownTo_X3_size
set_option maxRecDepth 20000 in
theorem ggX1_knownTo_X1_ownerAt : GoodIn wsX1_knownTo wsX1_ownerAt := goodIn_r _ [13, 1, 14, 15, 16, 6, 17, 18, 19, 20, 21, 22, 23, 8, 35, 36, 37, 38, 39, 40] (by decide +kernel) (by decide +kernel)
set_option maxRecDepth 20000 in
theorem gX1_knownTo_X1_ownerAt : GoodIn wsX1_knownTo (wsV RX1 46 RX1 yX1_ownerAt wsX1_ownerAt) := goodIn_app (goodIn_of _ (by decide +kernel)) ggX1_knownTo_X1_ownerAt
set_option maxRecDepth 20000 in
theorem ggX1_knownTo_X2_headOf : GoodIn wsX1_knownTo wsX2_headOf := goodIn_r _ [28, 29, 30, 15, 16, 6, 17, 18, 19, 20, 21, 22, 23, 8, 41, 37, 38, 39, 40] (by decide +kernel) (by decide +kernel)
set_option maxRecDepth 20000 in
theorem gX1_knownTo_X2_headOf : GoodIn wsX1_knownTo (wsV RX1 49 RX2 yX2_headOf wsX2_headOf) := goodIn_app (goodIn_of _ (by decide +kernel)) ggX1_knownTo_X2_headOf
set_option maxRecDepth 20000 in
theorem ggX1_knownTo_X3_at : GoodIn wsX1_knownTo wsX3_at := goodIn_r _ [17, 18, 19, 20, 21, 22, 6, 23, 8, 37, 38, 39, 40] (by decide +kernel) (by decide +kernel)
set_option maxRecDepth 20000 in
theorem gX1_knownTo_X3_at : GoodIn wsX1_knownTo (wsV RX1 28 RX3 yX3_at wsX3_at) := goodIn_app (goodIn_of _ (by decide +kernel)) ggX1_knownTo_X3_at
set_option maxRecDepth 20000 in
theorem ggX1_knownTo_X2_isStruckOut : GoodIn wsX1_knownTo wsX2_isStruckOut := goodIn_r _ [34, 29, 30, 15, 16, 6, 17, 18, 19, 20, 21, 22, 23, 8, 41, 37, 38, 39, 40] (by decide +kernel) (by decide +kernel)
set_option maxRecDepth 20000 in
theorem gX1_knownTo_X2_isStruckOut : GoodIn wsX1_knownTo (wsV RX1 61 RX2 yX2_isStruckOut wsX2_isStruckOut) := goodIn_app (goodIn_of _ (by decide +kernel)) ggX1_knownTo_X2_isStruckOut
theorem dX1_knownTo_0 : decode cX1_knownTo 0 = .ok (.iconst 0, 1) := by decide +kernel
theorem dX1_knownTo_1 : decode cX1_knownTo 1 = .ok (.istore_n 2, 1) := by decide +kernel
theorem dX1_knownTo_2 : decode cX1_knownTo 2 = .ok (.iconst 0, 1) := by decide +kernel
theorem dX1_knownTo_3 : decode cX1_knownTo 3 = .ok (.istore_n 3, 1) := by decide +kernel
theorem dX1_knownTo_4 : decode cX1_knownTo 4 = .ok (.iload_n 3, 1) := by decide +kernel
theorem dX1_knownTo_5 : decode cX1_knownTo 5 = .ok (.aload_n 0, 1) := by decide +kernel
theorem dX1_knownTo_6 : decode cX1_knownTo 6 = .ok (.getfield 16, 3) := by decide +kernel
theorem dX1_knownTo_9 : decode cX1_knownTo 9 = .ok (.invokevirtual 24, 3) := by decide +kernel
theorem dX1_knownTo_12 : decode cX1_knownTo 12 = .ok (.if_icmp .ge 55, 3) := by decide +kernel
theorem dX1_knownTo_15 : decode cX1_knownTo 15 = .ok (.aload_n 0, 1) := by decide +kernel
theorem dX1_knownTo_16 : decode cX1_knownTo 16 = .ok (.getfield 20, 3) := by decide +kernel
theorem dX1_knownTo_19 : decode cX1_knownTo 19 = .ok (.aload_n 0, 1) := by decide +kernel
theorem dX1_knownTo_20 : decode cX1_knownTo 20 = .ok (.iload_n 3, 1) := by decide +kernel
theorem dX1_knownTo_21 : decode cX1_knownTo 21 = .ok (.invokevirtual 46, 3) := by decide +kernel
theorem dX1_knownTo_24 : decode cX1_knownTo 24 = .ok (.invokevirtual 49, 3) := by decide +kernel
theorem dX1_knownTo_27 : decode cX1_knownTo 27 = .ok (.istore 4, 2) := by decide +kernel
theorem dX1_knownTo_29 : decode cX1_knownTo 29 = .ok (.aload_n 0, 1) := by decide +kernel
theorem dX1_knownTo_30 : decode cX1_knownTo 30 = .ok (.getfield 16, 3) := by decide +kernel
theorem dX1_knownTo_33 : decode cX1_knownTo 33 = .ok (.iload_n 3, 1) := by decide +kernel
theorem dX1_knownTo_34 : decode cX1_knownTo 34 = .ok (.iconst 0, 1) := by decide +kernel
theorem dX1_knownTo_35 : decode cX1_knownTo 35 = .ok (.invokevirtual 28, 3) := by decide +kernel
theorem dX1_knownTo_38 : decode cX1_knownTo 38 = .ok (.iload_n 1, 1) := by decide +kernel
theorem dX1_knownTo_39 : decode cX1_knownTo 39 = .ok (.if_icmp .ne 22, 3) := by decide +kernel
theorem dX1_knownTo_42 : decode cX1_knownTo 42 = .ok (.aload_n 0, 1) := by decide +kernel
theorem dX1_knownTo_43 : decode cX1_knownTo 43 = .ok (.getfield 20, 3) := by decide +kernel
theorem dX1_knownTo_46 : decode cX1_knownTo 46 = .ok (.iload 4, 2) := by decide +kernel
theorem dX1_knownTo_48 : decode cX1_knownTo 48 = .ok (.invokevirtual 61, 3) := by decide +kernel
theorem dX1_knownTo_51 : decode cX1_knownTo 51 = .ok (.ifCond .ne 10, 3) := by decide +kernel
theorem dX1_knownTo_54 : decode cX1_knownTo 54 = .ok (.iload_n 2, 1) := by decide +kernel
theorem dX1_knownTo_55 : decode cX1_knownTo 55 = .ok (.iconst 1, 1) := by decide +kernel
theorem dX1_knownTo_56 : decode cX1_knownTo 56 = .ok (.iload 4, 2) := by decide +kernel
theorem dX1_knownTo_58 : decode cX1_knownTo 58 = .ok (.ishl, 1) := by decide +kernel
theorem dX1_knownTo_59 : decode cX1_knownTo 59 = .ok (.ior, 1) := by decide +kernel
theorem dX1_knownTo_60 : decode cX1_knownTo 60 = .ok (.istore_n 2, 1) := by decide +kernel
theorem dX1_knownTo_61 : decode cX1_knownTo 61 = .ok (.iinc 3 1, 3) := by decide +kernel
theorem dX1_knownTo_64 : decode cX1_knownTo 64 = .ok (.goto (-60), 3) := by decide +kernel
theorem dX1_knownTo_67 : decode cX1_knownTo 67 = .ok (.iload_n 2, 1) := by decide +kernel
theorem dX1_knownTo_68 : decode cX1_knownTo 68 = .ok (.ireturn, 1) := by decide +kernel
set_option maxRecDepth 20000 in
theorem ggX1_countWith_X3_size : GoodIn wsX1_countWith wsX3_size := goodIn_r _ [6, 7, 20, 21, 22, 23] (by decide +kernel) (by decide +kernel)
set_option maxRecDepth 20000 in
theorem gX1_countWith_X3_size : GoodIn wsX1_countWith (wsV RX1 24 RX3 yX3_size wsX3_size) := goodIn_app (goodIn_of _ (by decide +kernel)) ggX1_countWith_X3_size
set_option maxRecDepth 20000 in
theorem ggX1_countWith_X3_at : GoodIn wsX1_countWith wsX3_at := goodIn_r _ [11, 12, 13, 14, 15, 16, 5, 17, 7, 20, 21, 22, 23] (by decide +kernel) (by decide +kernel)
set_option maxRecDepth 20000 in
theorem gX1_countWith_X3_at : GoodIn wsX1_countWith (wsV RX1 28 RX3 yX3_at wsX3_at) := goodIn_app (goodIn_of _ (by decide +kernel)) ggX1_countWith_X3_at
theorem dX1_countWith_0 : decode cX1_countWith 0 = .ok (.iconst 0, 1) := by decide +kernel
theorem dX1_countWith_1 : decode cX1_countWith 1 = .ok (.istore_n 3, 1) := by decide +kernel
theorem dX1_countWith_2 : decode cX1_countWith 2 = .ok (.iconst 0, 1) := by decide +kernel
theorem dX1_countWith_3 : decode cX1_countWith 3 = .ok (.istore 4, 2) := by decide +kernel
theorem dX1_countWith_5 : decode cX1_countWith 5 = .ok (.iload 4, 2) := by decide +kernel
theorem dX1_countWith_7 : decode cX1_countWith 7 = .ok (.aload_n 0, 1) := by decide +kernel
theorem dX1_countWith_8 : decode cX1_countWith 8 = .ok (.getfield 16, 3) := by decide +kernel
theorem dX1_countWith_11 : decode cX1_countWith 11 = .ok (.invokevirtual 24, 3) := by decide +kernel
theorem dX1_countWith_14 : decode cX1_countWith 14 = .ok (.if_icmp .ge 26, 3) := by decide +kernel
theorem dX1_countWith_17 : decode cX1_countWith 17 = .ok (.aload_n 0, 1) := by decide +kernel
theorem dX1_countWith_18 : decode cX1_countWith 18 = .ok (.getfield 16, 3) := by decide +kernel
theorem dX1_countWith_21 : decode cX1_countWith 21 = .ok (.iload 4, 2) := by decide +kernel
theorem dX1_countWith_23 : decode cX1_countWith 23 = .ok (.iload_n 1, 1) := by decide +kernel
theorem dX1_countWith_24 : decode cX1_countWith 24 = .ok (.invokevirtual 28, 3) := by decide +kernel
theorem dX1_countWith_27 : decode cX1_countWith 27 = .ok (.iload_n 2, 1) := by decide +kernel
theorem dX1_countWith_28 : decode cX1_countWith 28 = .ok (.if_icmp .ne 6, 3) := by decide +kernel
theorem dX1_countWith_31 : decode cX1_countWith 31 = .ok (.iinc 3 1, 3) := by decide +kernel
theorem dX1_countWith_34 : decode cX1_countWith 34 = .ok (.iinc 4 1, 3) := by decide +kernel
theorem dX1_countWith_37 : decode cX1_countWith 37 = .ok (.goto (-32), 3) := by decide +kernel
theorem dX1_countWith_40 : decode cX1_countWith 40 = .ok (.iload_n 3, 1) := by decide +kernel
theorem dX1_countWith_41 : decode cX1_countWith 41 = .ok (.ireturn, 1) := by decide +kernel
set_option maxRecDepth 20000 in
theorem ggX2_init_X3_init : GoodIn wsX2_init wsX3_init := goodIn_r _ [10, 11, 2, 3, 12, 13, 14, 15, 16, 17, 18, 19, 20, 21, 22, 23, 24] (by decide +kernel) (by decide +kernel)
set_option maxRecDepth 20000 in
theorem gX2_init_X3_init : GoodIn wsX2_init (wsX3_init) := ggX2_init_X3_init
theorem dX2_init_0 : decode cX2_init 0 = .ok (.aload_n 0, 1) := by decide +kernel
theorem dX2_init_1 : decode cX2_init 1 = .ok (.invokespecial 3, 3) := by decide +kernel
theorem dX2_init_4 : decode cX2_init 4 = .ok (.aload_n 0, 1) := by decide +kernel
theorem dX2_init_5 : decode cX2_init 5 = .ok (.new 9, 3) := by decide +kernel
theorem dX2_init_8 : decode cX2_init 8 = .ok (.dup, 1) := by decide +kernel
theorem dX2_init_9 : decode cX2_init 9 = .ok (.bipush 24, 2) := by decide +kernel
theorem dX2_init_11 : decode cX2_init 11 = .ok (.bipush 6, 2) := by decide +kernel
theorem dX2_init_13 : decode cX2_init 13 = .ok (.invokespecial 13, 3) := by decide +kernel
theorem dX2_init_16 : decode cX2_init 16 = .ok (.putfield 16, 3) := by decide +kernel
theorem dX2_init_19 : decode cX2_init 19 = .ok (.return_, 1) := by decide +kernel
theorem dX2_isMark_0 : decode cX2_isMark 0 = .ok (.iload_n 0, 1) := by decide +kernel
theorem dX2_isMark_1 : decode cX2_isMark 1 = .ok (.ifCond .lt 12, 3) := by decide +kernel
theorem dX2_isMark_4 : decode cX2_isMark 4 = .ok (.iload_n 0, 1) := by decide +kernel
theorem dX2_isMark_5 : decode cX2_isMark 5 = .ok (.iconst 4, 1) := by decide +kernel
theorem dX2_isMark_6 : decode cX2_isMark 6 = .ok (.if_icmp .ge 7, 3) := by decide +kernel
theorem dX2_isMark_9 : decode cX2_isMark 9 = .ok (.iconst 1, 1) := by decide +kernel
theorem dX2_isMark_10 : decode cX2_isMark 10 = .ok (.goto 4, 3) := by decide +kernel
theorem dX2_isMark_13 : decode cX2_isMark 13 = .ok (.iconst 0, 1) := by decide +kernel
theorem dX2_isMark_14 : decode cX2_isMark 14 = .ok (.ireturn, 1) := by decide +kernel
theorem dX2_isMarkNumber_0 : decode cX2_isMarkNumber 0 = .ok (.iload_n 0, 1) := by decide +kernel
theorem dX2_isMarkNumber_1 : decode cX2_isMarkNumber 1 = .ok (.ifCond .lt 13, 3) := by decide +kernel
theorem dX2_isMarkNumber_4 : decode cX2_isMarkNumber 4 = .ok (.iload_n 0, 1) := by decide +kernel
theorem dX2_isMarkNumber_5 : decode cX2_isMarkNumber 5 = .ok (.bipush 7, 2) := by decide +kernel
theorem dX2_isMarkNumber_7 : decode cX2_isMarkNumber 7 = .ok (.if_icmp .gt 7, 3) := by decide +kernel
theorem dX2_isMarkNumber_10 : decode cX2_isMarkNumber 10 = .ok (.iconst 1, 1) := by decide +kernel
theorem dX2_isMarkNumber_11 : decode cX2_isMarkNumber 11 = .ok (.goto 4, 3) := by decide +kernel
theorem dX2_isMarkNumber_14 : decode cX2_isMarkNumber 14 = .ok (.iconst 0, 1) := by decide +kernel
theorem dX2_isMarkNumber_15 : decode cX2_isMarkNumber 15 = .ok (.ireturn, 1) := by decide +kernel
set_option maxRecDepth 20000 in
theorem ggX2_size_X3_size : GoodIn wsX2_size wsX3_size := goodIn_r _ [6, 7, 9, 10, 11, 12] (by decide +kernel) (by decide +kernel)
set_option maxRecDepth 20000 in
theorem gX2_size_X3_size : GoodIn wsX2_size (wsV RX2 20 RX3 yX3_size wsX3_size) := goodIn_app (goodIn_of _ (by decide +kernel)) ggX2_size_X3_size
theorem dX2_size_0 : decode cX2_size 0 = .ok (.aload_n 0, 1) := by decide +kernel
theorem dX2_size_1 : decode cX2_size 1 = .ok (.getfield 16, 3) := by decide +kernel
theorem dX2_size_4 : decode cX2_size 4 = .ok (.invokevirtual 20, 3) := by decide +kernel
theorem dX2_size_7 : decode cX2_size 7 = .ok (.ireturn, 1) := by decide +kernel
set_option maxRecDepth 20000 in
theorem ggX2_isThere_X3_isThere : GoodIn wsX2_isThere wsX3_isThere := goodIn_r _ [6, 7, 9, 10, 11, 12] (by decide +kernel) (by decide +kernel)
set_option maxRecDepth 20000 in
theorem gX2_isThere_X3_isThere : GoodIn wsX2_isThere (wsV RX2 24 RX3 yX3_isThere wsX3_isThere) := goodIn_app (goodIn_of _ (by decide +kernel)) ggX2_isThere_X3_isThere
theorem dX2_isThere_0 : decode cX2_isThere 0 = .ok (.aload_n 0, 1) := by decide +kernel
theorem dX2_isThere_1 : decode cX2_isThere 1 = .ok (.getfield 16, 3) := by decide +kernel
theorem dX2_isThere_4 : decode cX2_isThere 4 = .ok (.iload_n 1, 1) := by decide +kernel
theorem dX2_isThere_5 : decode cX2_isThere 5 = .ok (.invokevirtual 24, 3) := by decide +kernel
theorem dX2_isThere_8 : decode cX2_isThere 8 = .ok (.ireturn, 1) := by decide +kernel
set_option maxRecDepth 20000 in
theorem ggX2_add_X2_isMarkNumber : GoodIn wsX2_add wsX2_isMarkNumber := goodIn_r _ [5] (by decide +kernel) (by decide +kernel)
set_option maxRecDepth 20000 in
theorem gX2_add_X2_isMarkNumber : GoodIn wsX2_add (va_wsS RX2 28 yX2_isMarkNumber wsX2_isMarkNumber) := goodIn_app (goodIn_of _ (by decide +kernel)) ggX2_add_X2_isMarkNumber
set_option maxRecDepth 20000 in
theorem ggX2_add_X3_addRow : GoodIn wsX2_add wsX3_addRow := goodIn_r _ [10, 11, 12, 13, 14, 9, 15, 16, 28, 29, 30, 31] (by decide +kernel) (by decide +kernel)
set_option maxRecDepth 20000 in
theorem gX2_add_X3_addRow : GoodIn wsX2_add (wsV RX2 31 RX3 yX3_addRow wsX3_addRow) := goodIn_app (goodIn_of _ (by decide +kernel)) ggX2_add_X3_addRow
set_option maxRecDepth 20000 in
theorem ggX2_add_X3_put : GoodIn wsX2_add wsX3_put := goodIn_r _ [20, 21, 22, 23, 24, 25, 9, 26, 11, 28, 29, 30, 31] (by decide +kernel) (by decide +kernel)
set_option maxRecDepth 20000 in
theorem gX2_add_X3_put : GoodIn wsX2_add (wsV RX2 34 RX3 yX3_put wsX3_put) := goodIn_app (goodIn_of _ (by decide +kernel)) ggX2_add_X3_put
theorem dX2_add_0 : decode cX2_add 0 = .ok (.iload_n 1, 1) := by decide +kernel
theorem dX2_add_1 : decode cX2_add 1 = .ok (.invokestatic 28, 3) := by decide +kernel
theorem dX2_add_4 : decode cX2_add 4 = .ok (.ifCond .eq 25, 3) := by decide +kernel
theorem dX2_add_7 : decode cX2_add 7 = .ok (.iload_n 2, 1) := by decide +kernel
theorem dX2_add_8 : decode cX2_add 8 = .ok (.invokestatic 28, 3) := by decide +kernel
theorem dX2_add_11 : decode cX2_add 11 = .ok (.ifCond .eq 18, 3) := by decide +kernel
theorem dX2_add_14 : decode cX2_add 14 = .ok (.iload_n 3, 1) := by decide +kernel
theorem dX2_add_15 : decode cX2_add 15 = .ok (.invokestatic 28, 3) := by decide +kernel
theorem dX2_add_18 : decode cX2_add 18 = .ok (.ifCond .eq 11, 3) := by decide +kernel
theorem dX2_add_21 : decode cX2_add 21 = .ok (.iload 4, 2) := by decide +kernel
theorem dX2_add_23 : decode cX2_add 23 = .ok (.invokestatic 28, 3) := by decide +kernel
theorem dX2_add_26 : decode cX2_add 26 = .ok (.ifCond .ne 5, 3) := by decide +kernel
theorem dX2_add_29 : decode cX2_add 29 = .ok (.iconst (-1), 1) := by decide +kernel
theorem dX2_add_30 : decode cX2_add 30 = .ok (.ireturn, 1) := by decide +kernel
theorem dX2_add_31 : decode cX2_add 31 = .ok (.aload_n 0, 1) := by decide +kernel
theorem dX2_add_32 : decode cX2_add 32 = .ok (.getfield 16, 3) := by decide +kernel
theorem dX2_add_35 : decode cX2_add 35 = .ok (.invokevirtual 31, 3) := by decide +kernel
theorem dX2_add_38 : decode cX2_add 38 = .ok (.istore 5, 2) := by decide +kernel
theorem dX2_add_40 : decode cX2_add 40 = .ok (.aload_n 0, 1) := by decide +kernel
theorem dX2_add_41 : decode cX2_add 41 = .ok (.getfield 16, 3) := by decide +kernel
theorem dX2_add_44 : decode cX2_add 44 = .ok (.iload 5, 2) := by decide +kernel
theorem dX2_add_46 : decode cX2_add 46 = .ok (.iconst 0, 1) := by decide +kernel
theorem dX2_add_47 : decode cX2_add 47 = .ok (.iload_n 1, 1) := by decide +kernel
theorem dX2_add_48 : decode cX2_add 48 = .ok (.invokevirtual 34, 3) := by decide +kernel
theorem dX2_add_51 : decode cX2_add 51 = .ok (.aload_n 0, 1) := by decide +kernel
theorem dX2_add_52 : decode cX2_add 52 = .ok (.getfield 16, 3) := by decide +kernel
theorem dX2_add_55 : decode cX2_add 55 = .ok (.iload 5, 2) := by decide +kernel
theorem dX2_add_57 : decode cX2_add 57 = .ok (.iconst 1, 1) := by decide +kernel
theorem dX2_add_58 : decode cX2_add 58 = .ok (.iload_n 2, 1) := by decide +kernel
theorem dX2_add_59 : decode cX2_add 59 = .ok (.invokevirtual 34, 3) := by decide +kernel
theorem dX2_add_62 : decode cX2_add 62 = .ok (.aload_n 0, 1) := by decide +kernel
theorem dX2_add_63 : decode cX2_add 63 = .ok (.getfield 16, 3) := by decide +kernel
theorem dX2_add_66 : decode cX2_add 66 = .ok (.iload 5, 2) := by decide +kernel
theorem dX2_add_68 : decode cX2_add 68 = .ok (.iconst 2, 1) := by decide +kernel
theorem dX2_add_69 : decode cX2_add 69 = .ok (.iload_n 3, 1) := by decide +kernel
theorem dX2_add_70 : decode cX2_add 70 = .ok (.invokevirtual 34, 3) := by decide +kernel
theorem dX2_add_73 : decode cX2_add 73 = .ok (.aload_n 0, 1) := by decide +kernel
theorem dX2_add_74 : decode cX2_add 74 = .ok (.getfield 16, 3) := by decide +kernel
theorem dX2_add_77 : decode cX2_add 77 = .ok (.iload 5, 2) := by decide +kernel
theorem dX2_add_79 : decode cX2_add 79 = .ok (.iconst 3, 1) := by decide +kernel
theorem dX2_add_80 : decode cX2_add 80 = .ok (.iload 4, 2) := by decide +kernel
theorem dX2_add_82 : decode cX2_add 82 = .ok (.invokevirtual 34, 3) := by decide +kernel
theorem dX2_add_85 : decode cX2_add 85 = .ok (.aload_n 0, 1) := by decide +kernel
theorem dX2_add_86 : decode cX2_add 86 = .ok (.getfield 16, 3) := by decide +kernel
theorem dX2_add_89 : decode cX2_add 89 = .ok (.iload 5, 2) := by decide +kernel
theorem dX2_add_91 : decode cX2_add 91 = .ok (.iconst 4, 1) := by decide +kernel
theorem dX2_add_92 : decode cX2_add 92 = .ok (.iconst (-1), 1) := by decide +kernel
theorem dX2_add_93 : decode cX2_add 93 = .ok (.invokevirtual 34, 3) := by decide +kernel
theorem dX2_add_96 : decode cX2_add 96 = .ok (.aload_n 0, 1) := by decide +kernel
theorem dX2_add_97 : decode cX2_add 97 = .ok (.getfield 16, 3) := by decide +kernel
theorem dX2_add_100 : decode cX2_add 100 = .ok (.iload 5, 2) := by decide +kernel
theorem dX2_add_102 : decode cX2_add 102 = .ok (.iconst 5, 1) := by decide +kernel
theorem dX2_add_103 : decode cX2_add 103 = .ok (.iconst 0, 1) := by decide +kernel
theorem dX2_add_104 : decode cX2_add 104 = .ok (.invokevirtual 34, 3) := by decide +kernel
theorem dX2_add_107 : decode cX2_add 107 = .ok (.iload 5, 2) := by decide +kernel
theorem dX2_add_109 : decode cX2_add 109 = .ok (.ireturn, 1) := by decide +kernel
set_option maxRecDepth 20000 in
theorem ggX2_setMark_X2_isThere : GoodIn wsX2_setMark wsX2_isThere := goodIn_r _ [6, 1, 7, 8, 9, 10, 11, 12, 29, 30, 31, 32, 33] (by decide +kernel) (by decide +kernel)
set_option maxRecDepth 20000 in
theorem gX2_setMark_X2_isThere : GoodIn wsX2_setMark (wsV RX2 38 RX2 yX2_isThere wsX2_isThere) := goodIn_app (goodIn_of _ (by decide +kernel)) ggX2_setMark_X2_isThere
set_option maxRecDepth 20000 in
theorem ggX2_setMark_X2_isMark : GoodIn wsX2_setMark wsX2_isMark := goodIn_r _ [15] (by decide +kernel) (by decide +kernel)
set_option maxRecDepth 20000 in
theorem gX2_setMark_X2_isMark : GoodIn wsX2_setMark (va_wsS RX2 39 yX2_isMark wsX2_isMark) := goodIn_app (goodIn_of _ (by decide +kernel)) ggX2_setMark_X2_isMark
set_option maxRecDepth 20000 in
theorem ggX2_setMark_X2_isMarkNumber : GoodIn wsX2_setMark wsX2_isMarkNumber := goodIn_r _ [18] (by decide +kernel) (by decide +kernel)
set_option maxRecDepth 20000 in
theorem gX2_setMark_X2_isMarkNumber : GoodIn wsX2_setMark (va_wsS RX2 28 yX2_isMarkNumber wsX2_isMarkNumber) := goodIn_app (goodIn_of _ (by decide +kernel)) ggX2_setMark_X2_isMarkNumber
set_option maxRecDepth 20000 in
theorem ggX2_setMark_X3_put : GoodIn wsX2_setMark wsX3_put := goodIn_r _ [22, 23, 24, 25, 26, 27, 10, 28, 12, 30, 31, 32, 33] (by decide +kernel) (by decide +kernel)
set_option maxRecDepth 20000 in
theorem gX2_setMark_X3_put : GoodIn wsX2_setMark (wsV RX2 34 RX3 yX3_put wsX3_put) := goodIn_app (goodIn_of _ (by decide +kernel)) ggX2_setMark_X3_put
theorem dX2_setMark_0 : decode cX2_setMark 0 = .ok (.aload_n 0, 1) := by decide +kernel
theorem dX2_setMark_1 : decode cX2_setMark 1 = .ok (.iload_n 1, 1) := by decide +kernel
theorem dX2_setMark_2 : decode cX2_setMark 2 = .ok (.invokevirtual 38, 3) := by decide +kernel
theorem dX2_setMark_5 : decode cX2_setMark 5 = .ok (.ifCond .eq 17, 3) := by decide +kernel
theorem dX2_setMark_8 : decode cX2_setMark 8 = .ok (.iload_n 2, 1) := by decide +kernel
theorem dX2_setMark_9 : decode cX2_setMark 9 = .ok (.invokestatic 39, 3) := by decide +kernel
theorem dX2_setMark_12 : decode cX2_setMark 12 = .ok (.ifCond .eq 10, 3) := by decide +kernel
theorem dX2_setMark_15 : decode cX2_setMark 15 = .ok (.iload_n 3, 1) := by decide +kernel
theorem dX2_setMark_16 : decode cX2_setMark 16 = .ok (.invokestatic 28, 3) := by decide +kernel
theorem dX2_setMark_19 : decode cX2_setMark 19 = .ok (.ifCond .ne 5, 3) := by decide +kernel
theorem dX2_setMark_22 : decode cX2_setMark 22 = .ok (.iconst 0, 1) := by decide +kernel
theorem dX2_setMark_23 : decode cX2_setMark 23 = .ok (.ireturn, 1) := by decide +kernel
theorem dX2_setMark_24 : decode cX2_setMark 24 = .ok (.aload_n 0, 1) := by decide +kernel
theorem dX2_setMark_25 : decode cX2_setMark 25 = .ok (.getfield 16, 3) := by decide +kernel
theorem dX2_setMark_28 : decode cX2_setMark 28 = .ok (.iload_n 1, 1) := by decide +kernel
theorem dX2_setMark_29 : decode cX2_setMark 29 = .ok (.iload_n 2, 1) := by decide +kernel
theorem dX2_setMark_30 : decode cX2_setMark 30 = .ok (.iload_n 3, 1) := by decide +kernel
theorem dX2_setMark_31 : decode cX2_setMark 31 = .ok (.invokevirtual 34, 3) := by decide +kernel
theorem dX2_setMark_34 : decode cX2_setMark 34 = .ok (.iconst 1, 1) := by decide +kernel
theorem dX2_setMark_35 : decode cX2_setMark 35 = .ok (.ireturn, 1) := by decide +kernel
set_option maxRecDepth 20000 in
theorem ggX2_markOf_X2_isMark : GoodIn wsX2_markOf wsX2_isMark := goodIn_r _ [5] (by decide +kernel) (by decide +kernel)
set_option maxRecDepth 20000 in
theorem gX2_markOf_X2_isMark : GoodIn wsX2_markOf (va_wsS RX2 39 yX2_isMark wsX2_isMark) := goodIn_app (goodIn_of _ (by decide +kernel)) ggX2_markOf_X2_isMark
set_option maxRecDepth 20000 in
theorem ggX2_markOf_X3_at : GoodIn wsX2_markOf wsX3_at := goodIn_r _ [10, 11, 12, 13, 14, 15, 9, 16, 17, 19, 20, 21, 22] (by decide +kernel) (by decide +kernel)
set_option maxRecDepth 20000 in
theorem gX2_markOf_X3_at : GoodIn wsX2_markOf (wsV RX2 42 RX3 yX3_at wsX3_at) := goodIn_app (goodIn_of _ (by decide +kernel)) ggX2_markOf_X3_at
theorem dX2_markOf_0 : decode cX2_markOf 0 = .ok (.iload_n 2, 1) := by decide +kernel
theorem dX2_markOf_1 : decode cX2_markOf 1 = .ok (.invokestatic 39, 3) := by decide +kernel
theorem dX2_markOf_4 : decode cX2_markOf 4 = .ok (.ifCond .eq 15, 3) := by decide +kernel
theorem dX2_markOf_7 : decode cX2_markOf 7 = .ok (.aload_n 0, 1) := by decide +kernel
theorem dX2_markOf_8 : decode cX2_markOf 8 = .ok (.getfield 16, 3) := by decide +kernel
theorem dX2_markOf_11 : decode cX2_markOf 11 = .ok (.iload_n 1, 1) := by decide +kernel
theorem dX2_markOf_12 : decode cX2_markOf 12 = .ok (.iload_n 2, 1) := by decide +kernel
theorem dX2_markOf_13 : decode cX2_markOf 13 = .ok (.invokevirtual 42, 3) := by decide +kernel
theorem dX2_markOf_16 : decode cX2_markOf 16 = .ok (.goto 4, 3) := by decide +kernel
theorem dX2_markOf_19 : decode cX2_markOf 19 = .ok (.iconst (-1), 1) := by decide +kernel
theorem dX2_markOf_20 : decode cX2_markOf 20 = .ok (.ireturn, 1) := by decide +kernel
set_option maxRecDepth 20000 in
theorem ggX2_holderOf_X3_at : GoodIn wsX2_holderOf wsX3_at := goodIn_r _ [6, 7, 8, 9, 10, 11, 5, 12, 13, 15, 16, 17, 18] (by decide +kernel) (by decide +kernel)
set_option maxRecDepth 20000 in
theorem gX2_holderOf_X3_at : GoodIn wsX2_holderOf (wsV RX2 42 RX3 yX3_at wsX3_at) := goodIn_app (goodIn_of _ (by decide +kernel)) ggX2_holderOf_X3_at
theorem dX2_holderOf_0 : decode cX2_holderOf 0 = .ok (.aload_n 0, 1) := by decide +kernel
theorem dX2_holderOf_1 : decode cX2_holderOf 1 = .ok (.getfield 16, 3) := by decide +kernel
theorem dX2_holderOf_4 : decode cX2_holderOf 4 = .ok (.iload_n 1, 1) := by decide +kernel
theorem dX2_holderOf_5 : decode cX2_holderOf 5 = .ok (.iconst 4, 1) := by decide +kernel
theorem dX2_holderOf_6 : decode cX2_holderOf 6 = .ok (.invokevirtual 42, 3) := by decide +kernel
theorem dX2_holderOf_9 : decode cX2_holderOf 9 = .ok (.ireturn, 1) := by decide +kernel
set_option maxRecDepth 20000 in
theorem ggX2_headOf_X3_at : GoodIn wsX2_headOf wsX3_at := goodIn_r _ [6, 7, 8, 9, 10, 11, 5, 12, 13, 15, 16, 17, 18] (by decide +kernel) (by decide +kernel)
set_option maxRecDepth 20000 in
theorem gX2_headOf_X3_at : GoodIn wsX2_headOf (wsV RX2 42 RX3 yX3_at wsX3_at) := goodIn_app (goodIn_of _ (by decide +kernel)) ggX2_headOf_X3_at
theorem dX2_headOf_0 : decode cX2_headOf 0 = .ok (.iload_n 1, 1) := by decide +kernel
theorem dX2_headOf_1 : decode cX2_headOf 1 = .ok (.istore_n 2, 1) := by decide +kernel
theorem dX2_headOf_2 : decode cX2_headOf 2 = .ok (.iconst 0, 1) := by decide +kernel
theorem dX2_headOf_3 : decode cX2_headOf 3 = .ok (.istore_n 3, 1) := by decide +kernel
theorem dX2_headOf_4 : decode cX2_headOf 4 = .ok (.iload_n 3, 1) := by decide +kernel
theorem dX2_headOf_5 : decode cX2_headOf 5 = .ok (.bipush 24, 2) := by decide +kernel
theorem dX2_headOf_7 : decode cX2_headOf 7 = .ok (.if_icmp .ge 32, 3) := by decide +kernel
theorem dX2_headOf_10 : decode cX2_headOf 10 = .ok (.aload_n 0, 1) := by decide +kernel
theorem dX2_headOf_11 : decode cX2_headOf 11 = .ok (.getfield 16, 3) := by decide +kernel
theorem dX2_headOf_14 : decode cX2_headOf 14 = .ok (.iload_n 2, 1) := by decide +kernel
theorem dX2_headOf_15 : decode cX2_headOf 15 = .ok (.iconst 4, 1) := by decide +kernel
theorem dX2_headOf_16 : decode cX2_headOf 16 = .ok (.invokevirtual 42, 3) := by decide +kernel
theorem dX2_headOf_19 : decode cX2_headOf 19 = .ok (.iconst (-1), 1) := by decide +kernel
theorem dX2_headOf_20 : decode cX2_headOf 20 = .ok (.if_icmp .eq 19, 3) := by decide +kernel
theorem dX2_headOf_23 : decode cX2_headOf 23 = .ok (.aload_n 0, 1) := by decide +kernel
theorem dX2_headOf_24 : decode cX2_headOf 24 = .ok (.getfield 16, 3) := by decide +kernel
theorem dX2_headOf_27 : decode cX2_headOf 27 = .ok (.iload_n 2, 1) := by decide +kernel
theorem dX2_headOf_28 : decode cX2_headOf 28 = .ok (.iconst 4, 1) := by decide +kernel
theorem dX2_headOf_29 : decode cX2_headOf 29 = .ok (.invokevirtual 42, 3) := by decide +kernel
theorem dX2_headOf_32 : decode cX2_headOf 32 = .ok (.istore_n 2, 1) := by decide +kernel
theorem dX2_headOf_33 : decode cX2_headOf 33 = .ok (.iinc 3 1, 3) := by decide +kernel
theorem dX2_headOf_36 : decode cX2_headOf 36 = .ok (.goto (-32), 3) := by decide +kernel
theorem dX2_headOf_39 : decode cX2_headOf 39 = .ok (.iload_n 2, 1) := by decide +kernel
theorem dX2_headOf_40 : decode cX2_headOf 40 = .ok (.ireturn, 1) := by decide +kernel
set_option maxRecDepth 20000 in
theorem ggX2_isStruckOut_X3_at : GoodIn wsX2_isStruckOut wsX3_at := goodIn_r _ [6, 7, 8, 9, 10, 11, 5, 12, 13, 15, 16, 17, 18] (by decide +kernel) (by decide +kernel)
set_option maxRecDepth 20000 in
theorem gX2_isStruckOut_X3_at : GoodIn wsX2_isStruckOut (wsV RX2 42 RX3 yX3_at wsX3_at) := goodIn_app (goodIn_of _ (by decide +kernel)) ggX2_isStruckOut_X3_at
theorem dX2_isStruckOut_0 : decode cX2_isStruckOut 0 = .ok (.aload_n 0, 1) := by decide +kernel
theorem dX2_isStruckOut_1 : decode cX2_isStruckOut 1 = .ok (.getfield 16, 3) := by decide +kernel
theorem dX2_isStruckOut_4 : decode cX2_isStruckOut 4 = .ok (.iload_n 1, 1) := by decide +kernel
theorem dX2_isStruckOut_5 : decode cX2_isStruckOut 5 = .ok (.iconst 5, 1) := by decide +kernel
theorem dX2_isStruckOut_6 : decode cX2_isStruckOut 6 = .ok (.invokevirtual 42, 3) := by decide +kernel
theorem dX2_isStruckOut_9 : decode cX2_isStruckOut 9 = .ok (.iconst 1, 1) := by decide +kernel
theorem dX2_isStruckOut_10 : decode cX2_isStruckOut 10 = .ok (.if_icmp .ne 7, 3) := by decide +kernel
theorem dX2_isStruckOut_13 : decode cX2_isStruckOut 13 = .ok (.iconst 1, 1) := by decide +kernel
theorem dX2_isStruckOut_14 : decode cX2_isStruckOut 14 = .ok (.goto 4, 3) := by decide +kernel
theorem dX2_isStruckOut_17 : decode cX2_isStruckOut 17 = .ok (.iconst 0, 1) := by decide +kernel
theorem dX2_isStruckOut_18 : decode cX2_isStruckOut 18 = .ok (.ireturn, 1) := by decide +kernel
set_option maxRecDepth 20000 in
theorem ggX2_join_X2_isHead : GoodIn wsX2_join wsX2_isHead := goodIn_r _ [6, 7, 8, 9, 5, 10, 1, 11, 12, 13, 14, 15, 16, 17, 18, 19, 20, 21, 22, 23, 24, 25, 26, 27, 28, 29, 30, 47, 48, 49, 50, 51] (by decide +kernel) (by decide +kernel)
set_option maxRecDepth 20000 in
theorem gX2_join_X2_isHead : GoodIn wsX2_join (wsV RX2 46 RX2 yX2_isHead wsX2_isHead) := goodIn_app (goodIn_of _ (by decide +kernel)) ggX2_join_X2_isHead
set_option maxRecDepth 20000 in
theorem ggX2_join_X3_put : GoodIn wsX2_join wsX3_put := goodIn_r _ [34, 25, 26, 27, 28, 29, 14, 30, 16, 48, 49, 50, 51] (by decide +kernel) (by decide +kernel)
set_option maxRecDepth 20000 in
theorem gX2_join_X3_put : GoodIn wsX2_join (wsV RX2 34 RX3 yX3_put wsX3_put) := goodIn_app (goodIn_of _ (by decide +kernel)) ggX2_join_X3_put
set_option maxRecDepth 20000 in
theorem ggX2_join_X2_isStruckOut : GoodIn wsX2_join wsX2_isStruckOut := goodIn_r _ [38, 1, 21, 22, 23, 14, 24, 25, 26, 27, 28, 29, 30, 16, 47, 48, 49, 50, 51] (by decide +kernel) (by decide +kernel)
set_option maxRecDepth 20000 in
theorem gX2_join_X2_isStruckOut : GoodIn wsX2_join (wsV RX2 49 RX2 yX2_isStruckOut wsX2_isStruckOut) := goodIn_app (goodIn_of _ (by decide +kernel)) ggX2_join_X2_isStruckOut
set_option maxRecDepth 20000 in
theorem ggX2_join_X2_strikeOutAllUnder : GoodIn wsX2_join wsX2_strikeOutAllUnder := goodIn_r _ [42, 1, 7, 8, 9, 5, 10, 11, 12, 13, 14, 15, 16, 43, 44, 45, 46, 21, 22, 23, 24, 25, 26, 27, 28, 29, 30, 31, 32, 33, 34, 47, 48, 49, 50, 51] (by decide +kernel) (by decide +kernel)
set_option maxRecDepth 20000 in
theorem gX2_join_X2_strikeOutAllUnder : GoodIn wsX2_join (wsV RX2 52 RX2 yX2_strikeOutAllUnder wsX2_strikeOutAllUnder) := goodIn_app (goodIn_of _ (by decide +kernel)) ggX2_join_X2_strikeOutAllUnder
theorem dX2_join_0 : decode cX2_join 0 = .ok (.iload_n 1, 1) := by decide +kernel
theorem dX2_join_1 : decode cX2_join 1 = .ok (.iload_n 2, 1) := by decide +kernel
theorem dX2_join_2 : decode cX2_join 2 = .ok (.if_icmp .eq 19, 3) := by decide +kernel
theorem dX2_join_5 : decode cX2_join 5 = .ok (.aload_n 0, 1) := by decide +kernel
theorem dX2_join_6 : decode cX2_join 6 = .ok (.iload_n 1, 1) := by decide +kernel
theorem dX2_join_7 : decode cX2_join 7 = .ok (.invokevirtual 46, 3) := by decide +kernel
theorem dX2_join_10 : decode cX2_join 10 = .ok (.ifCond .eq 11, 3) := by decide +kernel
theorem dX2_join_13 : decode cX2_join 13 = .ok (.aload_n 0, 1) := by decide +kernel
theorem dX2_join_14 : decode cX2_join 14 = .ok (.iload_n 2, 1) := by decide +kernel
theorem dX2_join_15 : decode cX2_join 15 = .ok (.invokevirtual 46, 3) := by decide +kernel
theorem dX2_join_18 : decode cX2_join 18 = .ok (.ifCond .ne 5, 3) := by decide +kernel
theorem dX2_join_21 : decode cX2_join 21 = .ok (.iconst 0, 1) := by decide +kernel
theorem dX2_join_22 : decode cX2_join 22 = .ok (.ireturn, 1) := by decide +kernel
theorem dX2_join_23 : decode cX2_join 23 = .ok (.aload_n 0, 1) := by decide +kernel
theorem dX2_join_24 : decode cX2_join 24 = .ok (.getfield 16, 3) := by decide +kernel
theorem dX2_join_27 : decode cX2_join 27 = .ok (.iload_n 2, 1) := by decide +kernel
theorem dX2_join_28 : decode cX2_join 28 = .ok (.iconst 4, 1) := by decide +kernel
theorem dX2_join_29 : decode cX2_join 29 = .ok (.iload_n 1, 1) := by decide +kernel
theorem dX2_join_30 : decode cX2_join 30 = .ok (.invokevirtual 34, 3) := by decide +kernel
theorem dX2_join_33 : decode cX2_join 33 = .ok (.aload_n 0, 1) := by decide +kernel
theorem dX2_join_34 : decode cX2_join 34 = .ok (.iload_n 1, 1) := by decide +kernel
theorem dX2_join_35 : decode cX2_join 35 = .ok (.invokevirtual 49, 3) := by decide +kernel
theorem dX2_join_38 : decode cX2_join 38 = .ok (.ifCond .ne 11, 3) := by decide +kernel
theorem dX2_join_41 : decode cX2_join 41 = .ok (.aload_n 0, 1) := by decide +kernel
theorem dX2_join_42 : decode cX2_join 42 = .ok (.iload_n 2, 1) := by decide +kernel
theorem dX2_join_43 : decode cX2_join 43 = .ok (.invokevirtual 49, 3) := by decide +kernel
theorem dX2_join_46 : decode cX2_join 46 = .ok (.ifCond .eq 8, 3) := by decide +kernel
theorem dX2_join_49 : decode cX2_join 49 = .ok (.aload_n 0, 1) := by decide +kernel
theorem dX2_join_50 : decode cX2_join 50 = .ok (.iload_n 1, 1) := by decide +kernel
theorem dX2_join_51 : decode cX2_join 51 = .ok (.invokevirtual 52, 3) := by decide +kernel
theorem dX2_join_54 : decode cX2_join 54 = .ok (.iconst 1, 1) := by decide +kernel
theorem dX2_join_55 : decode cX2_join 55 = .ok (.ireturn, 1) := by decide +kernel
set_option maxRecDepth 20000 in
theorem ggX2_leave_X2_holderOf : GoodIn wsX2_leave wsX2_holderOf := goodIn_r _ [6, 1, 7, 8, 9, 10, 11, 12, 13, 14, 15, 16, 17, 18, 23, 24, 25, 26, 27] (by decide +kernel) (by decide +kernel)
set_option maxRecDepth 20000 in
theorem gX2_leave_X2_holderOf : GoodIn wsX2_leave (wsV RX2 56 RX2 yX2_holderOf wsX2_holderOf) := goodIn_app (goodIn_of _ (by decide +kernel)) ggX2_leave_X2_holderOf
set_option maxRecDepth 20000 in
theorem ggX2_leave_X3_put : GoodIn wsX2_leave wsX3_put := goodIn_r _ [22, 12, 13, 14, 15, 16, 10, 17, 18, 24, 25, 26, 27] (by decide +kernel) (by decide +kernel)
set_option maxRecDepth 20000 in
theorem gX2_leave_X3_put : GoodIn wsX2_leave (wsV RX2 34 RX3 yX3_put wsX3_put) := goodIn_app (goodIn_of _ (by decide +kernel)) ggX2_leave_X3_put
theorem dX2_leave_0 : decode cX2_leave 0 = .ok (.aload_n 0, 1) := by decide +kernel
theorem dX2_leave_1 : decode cX2_leave 1 = .ok (.iload_n 1, 1) := by decide +kernel
theorem dX2_leave_2 : decode cX2_leave 2 = .ok (.invokevirtual 56, 3) := by decide +kernel
theorem dX2_leave_5 : decode cX2_leave 5 = .ok (.iconst (-1), 1) := by decide +kernel
theorem dX2_leave_6 : decode cX2_leave 6 = .ok (.if_icmp .ne 5, 3) := by decide +kernel
theorem dX2_leave_9 : decode cX2_leave 9 = .ok (.iconst 0, 1) := by decide +kernel
theorem dX2_leave_10 : decode cX2_leave 10 = .ok (.ireturn, 1) := by decide +kernel
theorem dX2_leave_11 : decode cX2_leave 11 = .ok (.aload_n 0, 1) := by decide +kernel
theorem dX2_leave_12 : decode cX2_leave 12 = .ok (.getfield 16, 3) := by decide +kernel
theorem dX2_leave_15 : decode cX2_leave 15 = .ok (.iload_n 1, 1) := by decide +kernel
theorem dX2_leave_16 : decode cX2_leave 16 = .ok (.iconst 4, 1) := by decide +kernel
theorem dX2_leave_17 : decode cX2_leave 17 = .ok (.iconst (-1), 1) := by decide +kernel
theorem dX2_leave_18 : decode cX2_leave 18 = .ok (.invokevirtual 34, 3) := by decide +kernel
theorem dX2_leave_21 : decode cX2_leave 21 = .ok (.iconst 1, 1) := by decide +kernel
theorem dX2_leave_22 : decode cX2_leave 22 = .ok (.ireturn, 1) := by decide +kernel
set_option maxRecDepth 20000 in
theorem ggX2_strikeOut_X2_isThere : GoodIn wsX2_strikeOut wsX2_isThere := goodIn_r _ [5, 6, 7, 8, 9, 10, 11, 12, 39, 40, 41, 42, 43] (by decide +kernel) (by decide +kernel)
set_option maxRecDepth 20000 in
theorem gX2_strikeOut_X2_isThere : GoodIn wsX2_strikeOut (wsV RX2 38 RX2 yX2_isThere wsX2_isThere) := goodIn_app (goodIn_of _ (by decide +kernel)) ggX2_strikeOut_X2_isThere
set_option maxRecDepth 20000 in
theorem ggX2_strikeOut_X2_isStruckOut : GoodIn wsX2_strikeOut wsX2_isStruckOut := goodIn_r _ [16, 6, 17, 18, 19, 10, 20, 21, 22, 23, 24, 25, 26, 12, 39, 40, 41, 42, 43] (by decide +kernel) (by decide +kernel)
set_option maxRecDepth 20000 in
theorem gX2_strikeOut_X2_isStruckOut : GoodIn wsX2_strikeOut (wsV RX2 49 RX2 yX2_isStruckOut wsX2_isStruckOut) := goodIn_app (goodIn_of _ (by decide +kernel)) ggX2_strikeOut_X2_isStruckOut
set_option maxRecDepth 20000 in
theorem ggX2_strikeOut_X2_headOf : GoodIn wsX2_strikeOut wsX2_headOf := goodIn_r _ [30, 6, 17, 18, 19, 10, 20, 21, 22, 23, 24, 25, 26, 12, 39, 40, 41, 42, 43] (by decide +kernel) (by decide +kernel)
set_option maxRecDepth 20000 in
theorem gX2_strikeOut_X2_headOf : GoodIn wsX2_strikeOut (wsV RX2 60 RX2 yX2_headOf wsX2_headOf) := goodIn_app (goodIn_of _ (by decide +kernel)) ggX2_strikeOut_X2_headOf
set_option maxRecDepth 20000 in
theorem ggX2_strikeOut_X2_strikeOutAllUnder : GoodIn wsX2_strikeOut wsX2_strikeOutAllUnder := goodIn_r _ [34, 6, 1, 2, 3, 4, 5, 7, 8, 9, 10, 11, 12, 27, 28, 29, 30, 17, 18, 19, 20, 21, 22, 23, 24, 25, 26, 35, 36, 37, 38, 39, 40, 41, 42, 43] (by decide +kernel) (by decide +kernel)
set_option maxRecDepth 20000 in
theorem gX2_strikeOut_X2_strikeOutAllUnder : GoodIn wsX2_strikeOut (wsV RX2 52 RX2 yX2_strikeOutAllUnder wsX2_strikeOutAllUnder) := goodIn_app (goodIn_of _ (by decide +kernel)) ggX2_strikeOut_X2_strikeOutAllUnder
theorem dX2_strikeOut_0 : decode cX2_strikeOut 0 = .ok (.aload_n 0, 1) := by decide +kernel
theorem dX2_strikeOut_1 : decode cX2_strikeOut 1 = .ok (.iload_n 1, 1) := by decide +kernel
theorem dX2_strikeOut_2 : decode cX2_strikeOut 2 = .ok (.invokevirtual 38, 3) := by decide +kernel
theorem dX2_strikeOut_5 : decode cX2_strikeOut 5 = .ok (.ifCond .eq 11, 3) := by decide +kernel
theorem dX2_strikeOut_8 : decode cX2_strikeOut 8 = .ok (.aload_n 0, 1) := by decide +kernel
theorem dX2_strikeOut_9 : decode cX2_strikeOut 9 = .ok (.iload_n 1, 1) := by decide +kernel
theorem dX2_strikeOut_10 : decode cX2_strikeOut 10 = .ok (.invokevirtual 49, 3) := by decide +kernel
theorem dX2_strikeOut_13 : decode cX2_strikeOut 13 = .ok (.ifCond .eq 5, 3) := by decide +kernel
theorem dX2_strikeOut_16 : decode cX2_strikeOut 16 = .ok (.iconst 0, 1) := by decide +kernel
theorem dX2_strikeOut_17 : decode cX2_strikeOut 17 = .ok (.ireturn, 1) := by decide +kernel
theorem dX2_strikeOut_18 : decode cX2_strikeOut 18 = .ok (.aload_n 0, 1) := by decide +kernel
theorem dX2_strikeOut_19 : decode cX2_strikeOut 19 = .ok (.aload_n 0, 1) := by decide +kernel
theorem dX2_strikeOut_20 : decode cX2_strikeOut 20 = .ok (.iload_n 1, 1) := by decide +kernel
theorem dX2_strikeOut_21 : decode cX2_strikeOut 21 = .ok (.invokevirtual 60, 3) := by decide +kernel
theorem dX2_strikeOut_24 : decode cX2_strikeOut 24 = .ok (.invokevirtual 52, 3) := by decide +kernel
theorem dX2_strikeOut_27 : decode cX2_strikeOut 27 = .ok (.iconst 1, 1) := by decide +kernel
theorem dX2_strikeOut_28 : decode cX2_strikeOut 28 = .ok (.ireturn, 1) := by decide +kernel
set_option maxRecDepth 20000 in
theorem ggX2_groupSize_X2_isAmong : GoodIn wsX2_groupSize wsX2_isAmong := goodIn_r _ [4] (by decide +kernel) (by decide +kernel)
set_option maxRecDepth 20000 in
theorem gX2_groupSize_X2_isAmong : GoodIn wsX2_groupSize (va_wsS RX2 63 yX2_isAmong wsX2_isAmong) := goodIn_app (goodIn_of _ (by decide +kernel)) ggX2_groupSize_X2_isAmong
set_option maxRecDepth 20000 in
theorem ggX2_groupSize_X2_areAlike : GoodIn wsX2_groupSize wsX2_areAlike := goodIn_r _ [8, 1, 2, 3, 4, 9, 10, 11, 12, 13, 14, 15, 16, 17, 18, 19, 20, 21, 22, 23, 24, 25, 26, 27, 28, 29, 30, 31, 32, 33] (by decide +kernel) (by decide +kernel)
set_option maxRecDepth 20000 in
theorem gX2_groupSize_X2_areAlike : GoodIn wsX2_groupSize (wsV RX2 67 RX2 yX2_areAlike wsX2_areAlike) := goodIn_app (goodIn_of _ (by decide +kernel)) ggX2_groupSize_X2_areAlike
theorem dX2_groupSize_0 : decode cX2_groupSize 0 = .ok (.iload_n 1, 1) := by decide +kernel
theorem dX2_groupSize_1 : decode cX2_groupSize 1 = .ok (.iload_n 2, 1) := by decide +kernel
theorem dX2_groupSize_2 : decode cX2_groupSize 2 = .ok (.invokestatic 63, 3) := by decide +kernel
theorem dX2_groupSize_5 : decode cX2_groupSize 5 = .ok (.ifCond .ne 5, 3) := by decide +kernel
theorem dX2_groupSize_8 : decode cX2_groupSize 8 = .ok (.iconst 0, 1) := by decide +kernel
theorem dX2_groupSize_9 : decode cX2_groupSize 9 = .ok (.ireturn, 1) := by decide +kernel
theorem dX2_groupSize_10 : decode cX2_groupSize 10 = .ok (.iconst 0, 1) := by decide +kernel
theorem dX2_groupSize_11 : decode cX2_groupSize 11 = .ok (.istore 4, 2) := by decide +kernel
theorem dX2_groupSize_13 : decode cX2_groupSize 13 = .ok (.iconst 0, 1) := by decide +kernel
theorem dX2_groupSize_14 : decode cX2_groupSize 14 = .ok (.istore 5, 2) := by decide +kernel
theorem dX2_groupSize_16 : decode cX2_groupSize 16 = .ok (.iload 5, 2) := by decide +kernel
theorem dX2_groupSize_18 : decode cX2_groupSize 18 = .ok (.bipush 24, 2) := by decide +kernel
theorem dX2_groupSize_20 : decode cX2_groupSize 20 = .ok (.if_icmp .ge 32, 3) := by decide +kernel
theorem dX2_groupSize_23 : decode cX2_groupSize 23 = .ok (.iload_n 1, 1) := by decide +kernel
theorem dX2_groupSize_24 : decode cX2_groupSize 24 = .ok (.iload 5, 2) := by decide +kernel
theorem dX2_groupSize_26 : decode cX2_groupSize 26 = .ok (.invokestatic 63, 3) := by decide +kernel
theorem dX2_groupSize_29 : decode cX2_groupSize 29 = .ok (.ifCond .eq 17, 3) := by decide +kernel
theorem dX2_groupSize_32 : decode cX2_groupSize 32 = .ok (.aload_n 0, 1) := by decide +kernel
theorem dX2_groupSize_33 : decode cX2_groupSize 33 = .ok (.iload_n 2, 1) := by decide +kernel
theorem dX2_groupSize_34 : decode cX2_groupSize 34 = .ok (.iload 5, 2) := by decide +kernel
theorem dX2_groupSize_36 : decode cX2_groupSize 36 = .ok (.iload_n 3, 1) := by decide +kernel
theorem dX2_groupSize_37 : decode cX2_groupSize 37 = .ok (.invokevirtual 67, 3) := by decide +kernel
theorem dX2_groupSize_40 : decode cX2_groupSize 40 = .ok (.ifCond .eq 6, 3) := by decide +kernel
theorem dX2_groupSize_43 : decode cX2_groupSize 43 = .ok (.iinc 4 1, 3) := by decide +kernel
theorem dX2_groupSize_46 : decode cX2_groupSize 46 = .ok (.iinc 5 1, 3) := by decide +kernel
theorem dX2_groupSize_49 : decode cX2_groupSize 49 = .ok (.goto (-33), 3) := by decide +kernel
theorem dX2_groupSize_52 : decode cX2_groupSize 52 = .ok (.iload 4, 2) := by decide +kernel
theorem dX2_groupSize_54 : decode cX2_groupSize 54 = .ok (.ireturn, 1) := by decide +kernel
set_option maxRecDepth 20000 in
theorem ggX2_countHaving_X2_isAmong : GoodIn wsX2_countHaving wsX2_isAmong := goodIn_r _ [4] (by decide +kernel) (by decide +kernel)
set_option maxRecDepth 20000 in
theorem gX2_countHaving_X2_isAmong : GoodIn wsX2_countHaving (va_wsS RX2 63 yX2_isAmong wsX2_isAmong) := goodIn_app (goodIn_of _ (by decide +kernel)) ggX2_countHaving_X2_isAmong
set_option maxRecDepth 20000 in
theorem ggX2_countHaving_X2_markOf : GoodIn wsX2_countHaving wsX2_markOf := goodIn_r _ [8, 9, 10, 11, 3, 12, 13, 14, 15, 16, 17, 18, 19, 20, 21, 22, 23, 24, 25, 26, 27, 28, 29] (by decide +kernel) (by decide +kernel)
set_option maxRecDepth 20000 in
theorem gX2_countHaving_X2_markOf : GoodIn wsX2_countHaving (wsV RX2 71 RX2 yX2_markOf wsX2_markOf) := goodIn_app (goodIn_of _ (by decide +kernel)) ggX2_countHaving_X2_markOf
theorem dX2_countHaving_0 : decode cX2_countHaving 0 = .ok (.iconst 0, 1) := by decide +kernel
theorem dX2_countHaving_1 : decode cX2_countHaving 1 = .ok (.istore 4, 2) := by decide +kernel
theorem dX2_countHaving_3 : decode cX2_countHaving 3 = .ok (.iconst 0, 1) := by decide +kernel
theorem dX2_countHaving_4 : decode cX2_countHaving 4 = .ok (.istore 5, 2) := by decide +kernel
theorem dX2_countHaving_6 : decode cX2_countHaving 6 = .ok (.iload 5, 2) := by decide +kernel
theorem dX2_countHaving_8 : decode cX2_countHaving 8 = .ok (.bipush 24, 2) := by decide +kernel
theorem dX2_countHaving_10 : decode cX2_countHaving 10 = .ok (.if_icmp .ge 32, 3) := by decide +kernel
theorem dX2_countHaving_13 : decode cX2_countHaving 13 = .ok (.iload_n 1, 1) := by decide +kernel
theorem dX2_countHaving_14 : decode cX2_countHaving 14 = .ok (.iload 5, 2) := by decide +kernel
theorem dX2_countHaving_16 : decode cX2_countHaving 16 = .ok (.invokestatic 63, 3) := by decide +kernel
theorem dX2_countHaving_19 : decode cX2_countHaving 19 = .ok (.ifCond .eq 17, 3) := by decide +kernel
theorem dX2_countHaving_22 : decode cX2_countHaving 22 = .ok (.aload_n 0, 1) := by decide +kernel
theorem dX2_countHaving_23 : decode cX2_countHaving 23 = .ok (.iload 5, 2) := by decide +kernel
theorem dX2_countHaving_25 : decode cX2_countHaving 25 = .ok (.iload_n 2, 1) := by decide +kernel
theorem dX2_countHaving_26 : decode cX2_countHaving 26 = .ok (.invokevirtual 71, 3) := by decide +kernel
theorem dX2_countHaving_29 : decode cX2_countHaving 29 = .ok (.iload_n 3, 1) := by decide +kernel
theorem dX2_countHaving_30 : decode cX2_countHaving 30 = .ok (.if_icmp .ne 6, 3) := by decide +kernel
theorem dX2_countHaving_33 : decode cX2_countHaving 33 = .ok (.iinc 4 1, 3) := by decide +kernel
theorem dX2_countHaving_36 : decode cX2_countHaving 36 = .ok (.iinc 5 1, 3) := by decide +kernel
theorem dX2_countHaving_39 : decode cX2_countHaving 39 = .ok (.goto (-33), 3) := by decide +kernel
theorem dX2_countHaving_42 : decode cX2_countHaving 42 = .ok (.iload 4, 2) := by decide +kernel
theorem dX2_countHaving_44 : decode cX2_countHaving 44 = .ok (.ireturn, 1) := by decide +kernel
set_option maxRecDepth 20000 in
theorem ggX2_isHead_X2_isThere : GoodIn wsX2_isHead wsX2_isThere := goodIn_r _ [5, 6, 7, 8, 9, 10, 11, 12, 27, 28, 29, 30, 31] (by decide +kernel) (by decide +kernel)
set_option maxRecDepth 20000 in
theorem gX2_isHead_X2_isThere : GoodIn wsX2_isHead (wsV RX2 38 RX2 yX2_isThere wsX2_isThere) := goodIn_app (goodIn_of _ (by decide +kernel)) ggX2_isHead_X2_isThere
set_option maxRecDepth 20000 in
theorem ggX2_isHead_X2_holderOf : GoodIn wsX2_isHead wsX2_holderOf := goodIn_r _ [16, 6, 17, 18, 19, 10, 20, 21, 22, 23, 24, 25, 26, 12, 27, 28, 29, 30, 31] (by decide +kernel) (by decide +kernel)
set_option maxRecDepth 20000 in
theorem gX2_isHead_X2_holderOf : GoodIn wsX2_isHead (wsV RX2 56 RX2 yX2_holderOf wsX2_holderOf) := goodIn_app (goodIn_of _ (by decide +kernel)) ggX2_isHead_X2_holderOf
theorem dX2_isHead_0 : decode cX2_isHead 0 = .ok (.aload_n 0, 1) := by decide +kernel
theorem dX2_isHead_1 : decode cX2_isHead 1 = .ok (.iload_n 1, 1) := by decide +kernel
theorem dX2_isHead_2 : decode cX2_isHead 2 = .ok (.invokevirtual 38, 3) := by decide +kernel
theorem dX2_isHead_5 : decode cX2_isHead 5 = .ok (.ifCond .eq 16, 3) := by decide +kernel
theorem dX2_isHead_8 : decode cX2_isHead 8 = .ok (.aload_n 0, 1) := by decide +kernel
theorem dX2_isHead_9 : decode cX2_isHead 9 = .ok (.iload_n 1, 1) := by decide +kernel
theorem dX2_isHead_10 : decode cX2_isHead 10 = .ok (.invokevirtual 56, 3) := by decide +kernel
theorem dX2_isHead_13 : decode cX2_isHead 13 = .ok (.iconst (-1), 1) := by decide +kernel
theorem dX2_isHead_14 : decode cX2_isHead 14 = .ok (.if_icmp .ne 7, 3) := by decide +kernel
theorem dX2_isHead_17 : decode cX2_isHead 17 = .ok (.iconst 1, 1) := by decide +kernel
theorem dX2_isHead_18 : decode cX2_isHead 18 = .ok (.goto 4, 3) := by decide +kernel
theorem dX2_isHead_21 : decode cX2_isHead 21 = .ok (.iconst 0, 1) := by decide +kernel
theorem dX2_isHead_22 : decode cX2_isHead 22 = .ok (.ireturn, 1) := by decide +kernel
set_option maxRecDepth 20000 in
theorem ggX2_strikeOutAllUnder_X2_isThere : GoodIn wsX2_strikeOutAllUnder wsX2_isThere := goodIn_r _ [6, 1, 7, 8, 9, 10, 11, 12, 31, 32, 33, 34, 35] (by decide +kernel) (by decide +kernel)
set_option maxRecDepth 20000 in
theorem gX2_strikeOutAllUnder_X2_isThere : GoodIn wsX2_strikeOutAllUnder (wsV RX2 38 RX2 yX2_isThere wsX2_isThere) := goodIn_app (goodIn_of _ (by decide +kernel)) ggX2_strikeOutAllUnder_X2_isThere
set_option maxRecDepth 20000 in
theorem ggX2_strikeOutAllUnder_X2_headOf : GoodIn wsX2_strikeOutAllUnder wsX2_headOf := goodIn_r _ [16, 1, 17, 18, 19, 10, 20, 21, 22, 23, 24, 25, 26, 12, 31, 32, 33, 34, 35] (by decide +kernel) (by decide +kernel)
set_option maxRecDepth 20000 in
theorem gX2_strikeOutAllUnder_X2_headOf : GoodIn wsX2_strikeOutAllUnder (wsV RX2 60 RX2 yX2_headOf wsX2_headOf) := goodIn_app (goodIn_of _ (by decide +kernel)) ggX2_strikeOutAllUnder_X2_headOf
set_option maxRecDepth 20000 in
theorem ggX2_strikeOutAllUnder_X3_put : GoodIn wsX2_strikeOutAllUnder wsX3_put := goodIn_r _ [30, 21, 22, 23, 24, 25, 10, 26, 12, 32, 33, 34, 35] (by decide +kernel) (by decide +kernel)
set_option maxRecDepth 20000 in
theorem gX2_strikeOutAllUnder_X3_put : GoodIn wsX2_strikeOutAllUnder (wsV RX2 34 RX3 yX3_put wsX3_put) := goodIn_app (goodIn_of _ (by decide +kernel)) ggX2_strikeOutAllUnder_X3_put
theorem dX2_strikeOutAllUnder_0 : decode cX2_strikeOutAllUnder 0 = .ok (.iconst 0, 1) := by decide +kernel
theorem dX2_strikeOutAllUnder_1 : decode cX2_strikeOutAllUnder 1 = .ok (.istore_n 2, 1) := by decide +kernel
theorem dX2_strikeOutAllUnder_2 : decode cX2_strikeOutAllUnder 2 = .ok (.iload_n 2, 1) := by decide +kernel
theorem dX2_strikeOutAllUnder_3 : decode cX2_strikeOutAllUnder 3 = .ok (.bipush 24, 2) := by decide +kernel
theorem dX2_strikeOutAllUnder_5 : decode cX2_strikeOutAllUnder 5 = .ok (.if_icmp .ge 36, 3) := by decide +kernel
theorem dX2_strikeOutAllUnder_8 : decode cX2_strikeOutAllUnder 8 = .ok (.aload_n 0, 1) := by decide +kernel
theorem dX2_strikeOutAllUnder_9 : decode cX2_strikeOutAllUnder 9 = .ok (.iload_n 2, 1) := by decide +kernel
theorem dX2_strikeOutAllUnder_10 : decode cX2_strikeOutAllUnder 10 = .ok (.invokevirtual 38, 3) := by decide +kernel
theorem dX2_strikeOutAllUnder_13 : decode cX2_strikeOutAllUnder 13 = .ok (.ifCond .eq 22, 3) := by decide +kernel
theorem dX2_strikeOutAllUnder_16 : decode cX2_strikeOutAllUnder 16 = .ok (.aload_n 0, 1) := by decide +kernel
theorem dX2_strikeOutAllUnder_17 : decode cX2_strikeOutAllUnder 17 = .ok (.iload_n 2, 1) := by decide +kernel
theorem dX2_strikeOutAllUnder_18 : decode cX2_strikeOutAllUnder 18 = .ok (.invokevirtual 60, 3) := by decide +kernel
theorem dX2_strikeOutAllUnder_21 : decode cX2_strikeOutAllUnder 21 = .ok (.iload_n 1, 1) := by decide +kernel
theorem dX2_strikeOutAllUnder_22 : decode cX2_strikeOutAllUnder 22 = .ok (.if_icmp .ne 13, 3) := by decide +kernel
theorem dX2_strikeOutAllUnder_25 : decode cX2_strikeOutAllUnder 25 = .ok (.aload_n 0, 1) := by decide +kernel
theorem dX2_strikeOutAllUnder_26 : decode cX2_strikeOutAllUnder 26 = .ok (.getfield 16, 3) := by decide +kernel
theorem dX2_strikeOutAllUnder_29 : decode cX2_strikeOutAllUnder 29 = .ok (.iload_n 2, 1) := by decide +kernel
theorem dX2_strikeOutAllUnder_30 : decode cX2_strikeOutAllUnder 30 = .ok (.iconst 5, 1) := by decide +kernel
theorem dX2_strikeOutAllUnder_31 : decode cX2_strikeOutAllUnder 31 = .ok (.iconst 1, 1) := by decide +kernel
theorem dX2_strikeOutAllUnder_32 : decode cX2_strikeOutAllUnder 32 = .ok (.invokevirtual 34, 3) := by decide +kernel
theorem dX2_strikeOutAllUnder_35 : decode cX2_strikeOutAllUnder 35 = .ok (.iinc 2 1, 3) := by decide +kernel
theorem dX2_strikeOutAllUnder_38 : decode cX2_strikeOutAllUnder 38 = .ok (.goto (-36), 3) := by decide +kernel
theorem dX2_strikeOutAllUnder_41 : decode cX2_strikeOutAllUnder 41 = .ok (.return_, 1) := by decide +kernel
set_option maxRecDepth 20000 in
theorem ggX2_areAlike_X2_isAmong : GoodIn wsX2_areAlike wsX2_isAmong := goodIn_r _ [4] (by decide +kernel) (by decide +kernel)
set_option maxRecDepth 20000 in
theorem gX2_areAlike_X2_isAmong : GoodIn wsX2_areAlike (va_wsS RX2 63 yX2_isAmong wsX2_isAmong) := goodIn_app (goodIn_of _ (by decide +kernel)) ggX2_areAlike_X2_isAmong
set_option maxRecDepth 20000 in
theorem ggX2_areAlike_X2_markOf : GoodIn wsX2_areAlike wsX2_markOf := goodIn_r _ [8, 9, 10, 11, 3, 12, 13, 14, 15, 16, 17, 18, 19, 20, 21, 22, 23, 24, 25, 26, 27, 28, 29] (by decide +kernel) (by decide +kernel)
set_option maxRecDepth 20000 in
theorem gX2_areAlike_X2_markOf : GoodIn wsX2_areAlike (wsV RX2 71 RX2 yX2_markOf wsX2_markOf) := goodIn_app (goodIn_of _ (by decide +kernel)) ggX2_areAlike_X2_markOf
theorem dX2_areAlike_0 : decode cX2_areAlike 0 = .ok (.iconst 0, 1) := by decide +kernel
theorem dX2_areAlike_1 : decode cX2_areAlike 1 = .ok (.istore 4, 2) := by decide +kernel
theorem dX2_areAlike_3 : decode cX2_areAlike 3 = .ok (.iload 4, 2) := by decide +kernel
theorem dX2_areAlike_5 : decode cX2_areAlike 5 = .ok (.iconst 4, 1) := by decide +kernel
theorem dX2_areAlike_6 : decode cX2_areAlike 6 = .ok (.if_icmp .ge 37, 3) := by decide +kernel
theorem dX2_areAlike_9 : decode cX2_areAlike 9 = .ok (.iload_n 3, 1) := by decide +kernel
theorem dX2_areAlike_10 : decode cX2_areAlike 10 = .ok (.iload 4, 2) := by decide +kernel
theorem dX2_areAlike_12 : decode cX2_areAlike 12 = .ok (.invokestatic 63, 3) := by decide +kernel
theorem dX2_areAlike_15 : decode cX2_areAlike 15 = .ok (.ifCond .eq 22, 3) := by decide +kernel
theorem dX2_areAlike_18 : decode cX2_areAlike 18 = .ok (.aload_n 0, 1) := by decide +kernel
theorem dX2_areAlike_19 : decode cX2_areAlike 19 = .ok (.iload_n 1, 1) := by decide +kernel
theorem dX2_areAlike_20 : decode cX2_areAlike 20 = .ok (.iload 4, 2) := by decide +kernel
theorem dX2_areAlike_22 : decode cX2_areAlike 22 = .ok (.invokevirtual 71, 3) := by decide +kernel
theorem dX2_areAlike_25 : decode cX2_areAlike 25 = .ok (.aload_n 0, 1) := by decide +kernel
theorem dX2_areAlike_26 : decode cX2_areAlike 26 = .ok (.iload_n 2, 1) := by decide +kernel
theorem dX2_areAlike_27 : decode cX2_areAlike 27 = .ok (.iload 4, 2) := by decide +kernel
theorem dX2_areAlike_29 : decode cX2_areAlike 29 = .ok (.invokevirtual 71, 3) := by decide +kernel
theorem dX2_areAlike_32 : decode cX2_areAlike 32 = .ok (.if_icmp .eq 5, 3) := by decide +kernel
theorem dX2_areAlike_35 : decode cX2_areAlike 35 = .ok (.iconst 0, 1) := by decide +kernel
theorem dX2_areAlike_36 : decode cX2_areAlike 36 = .ok (.ireturn, 1) := by decide +kernel
theorem dX2_areAlike_37 : decode cX2_areAlike 37 = .ok (.iinc 4 1, 3) := by decide +kernel
theorem dX2_areAlike_40 : decode cX2_areAlike 40 = .ok (.goto (-37), 3) := by decide +kernel
theorem dX2_areAlike_43 : decode cX2_areAlike 43 = .ok (.iconst 1, 1) := by decide +kernel
theorem dX2_areAlike_44 : decode cX2_areAlike 44 = .ok (.ireturn, 1) := by decide +kernel
theorem dX2_isAmong_0 : decode cX2_isAmong 0 = .ok (.iload_n 0, 1) := by decide +kernel
theorem dX2_isAmong_1 : decode cX2_isAmong 1 = .ok (.iload_n 1, 1) := by decide +kernel
theorem dX2_isAmong_2 : decode cX2_isAmong 2 = .ok (.ishr, 1) := by decide +kernel
theorem dX2_isAmong_3 : decode cX2_isAmong 3 = .ok (.iconst 1, 1) := by decide +kernel
theorem dX2_isAmong_4 : decode cX2_isAmong 4 = .ok (.iand, 1) := by decide +kernel
theorem dX2_isAmong_5 : decode cX2_isAmong 5 = .ok (.iconst 1, 1) := by decide +kernel
theorem dX2_isAmong_6 : decode cX2_isAmong 6 = .ok (.if_icmp .ne 7, 3) := by decide +kernel
theorem dX2_isAmong_9 : decode cX2_isAmong 9 = .ok (.iconst 1, 1) := by decide +kernel
theorem dX2_isAmong_10 : decode cX2_isAmong 10 = .ok (.goto 4, 3) := by decide +kernel
theorem dX2_isAmong_13 : decode cX2_isAmong 13 = .ok (.iconst 0, 1) := by decide +kernel
theorem dX2_isAmong_14 : decode cX2_isAmong 14 = .ok (.ireturn, 1) := by decide +kernel
theorem dX3_init_0 : decode cX3_init 0 = .ok (.aload_n 0, 1) := by decide +kernel
theorem dX3_init_1 : decode cX3_init 1 = .ok (.invokespecial 3, 3) := by decide +kernel
theorem dX3_init_4 : decode cX3_init 4 = .ok (.aload_n 0, 1) := by decide +kernel
theorem dX3_init_5 : decode cX3_init 5 = .ok (.iconst 0, 1) := by decide +kernel
theorem dX3_init_6 : decode cX3_init 6 = .ok (.iload_n 1, 1) := by decide +kernel
theorem dX3_init_7 : decode cX3_init 7 = .ok (.invokestatic 9, 3) := by decide +kernel
theorem dX3_init_10 : decode cX3_init 10 = .ok (.putfield 15, 3) := by decide +kernel
theorem dX3_init_13 : decode cX3_init 13 = .ok (.aload_n 0, 1) := by decide +kernel
theorem dX3_init_14 : decode cX3_init 14 = .ok (.iconst 0, 1) := by decide +kernel
theorem dX3_init_15 : decode cX3_init 15 = .ok (.iload_n 2, 1) := by decide +kernel
theorem dX3_init_16 : decode cX3_init 16 = .ok (.invokestatic 9, 3) := by decide +kernel
theorem dX3_init_19 : decode cX3_init 19 = .ok (.putfield 21, 3) := by decide +kernel
theorem dX3_init_22 : decode cX3_init 22 = .ok (.aload_n 0, 1) := by decide +kernel
theorem dX3_init_23 : decode cX3_init 23 = .ok (.aload_n 0, 1) := by decide +kernel
theorem dX3_init_24 : decode cX3_init 24 = .ok (.getfield 15, 3) := by decide +kernel
theorem dX3_init_27 : decode cX3_init 27 = .ok (.aload_n 0, 1) := by decide +kernel
theorem dX3_init_28 : decode cX3_init 28 = .ok (.getfield 21, 3) := by decide +kernel
theorem dX3_init_31 : decode cX3_init 31 = .ok (.imul, 1) := by decide +kernel
theorem dX3_init_32 : decode cX3_init 32 = .ok (.newarray .int, 2) := by decide +kernel
theorem dX3_init_34 : decode cX3_init 34 = .ok (.putfield 24, 3) := by decide +kernel
theorem dX3_init_37 : decode cX3_init 37 = .ok (.aload_n 0, 1) := by decide +kernel
theorem dX3_init_38 : decode cX3_init 38 = .ok (.iconst 0, 1) := by decide +kernel
theorem dX3_init_39 : decode cX3_init 39 = .ok (.putfield 28, 3) := by decide +kernel
theorem dX3_init_42 : decode cX3_init 42 = .ok (.return_, 1) := by decide +kernel
theorem dX3_size_0 : decode cX3_size 0 = .ok (.aload_n 0, 1) := by decide +kernel
theorem dX3_size_1 : decode cX3_size 1 = .ok (.getfield 28, 3) := by decide +kernel
theorem dX3_size_4 : decode cX3_size 4 = .ok (.ireturn, 1) := by decide +kernel
theorem dX3_isFull_0 : decode cX3_isFull 0 = .ok (.aload_n 0, 1) := by decide +kernel
theorem dX3_isFull_1 : decode cX3_isFull 1 = .ok (.getfield 28, 3) := by decide +kernel
theorem dX3_isFull_4 : decode cX3_isFull 4 = .ok (.aload_n 0, 1) := by decide +kernel
theorem dX3_isFull_5 : decode cX3_isFull 5 = .ok (.getfield 15, 3) := by decide +kernel
theorem dX3_isFull_8 : decode cX3_isFull 8 = .ok (.if_icmp .lt 7, 3) := by decide +kernel
theorem dX3_isFull_11 : decode cX3_isFull 11 = .ok (.iconst 1, 1) := by decide +kernel
theorem dX3_isFull_12 : decode cX3_isFull 12 = .ok (.goto 4, 3) := by decide +kernel
theorem dX3_isFull_15 : decode cX3_isFull 15 = .ok (.iconst 0, 1) := by decide +kernel
theorem dX3_isFull_16 : decode cX3_isFull 16 = .ok (.ireturn, 1) := by decide +kernel
theorem dX3_isThere_0 : decode cX3_isThere 0 = .ok (.iload_n 1, 1) := by decide +kernel
theorem dX3_isThere_1 : decode cX3_isThere 1 = .ok (.ifCond .lt 15, 3) := by decide +kernel
theorem dX3_isThere_4 : decode cX3_isThere 4 = .ok (.iload_n 1, 1) := by decide +kernel
theorem dX3_isThere_5 : decode cX3_isThere 5 = .ok (.aload_n 0, 1) := by decide +kernel
theorem dX3_isThere_6 : decode cX3_isThere 6 = .ok (.getfield 28, 3) := by decide +kernel
theorem dX3_isThere_9 : decode cX3_isThere 9 = .ok (.if_icmp .ge 7, 3) := by decide +kernel
theorem dX3_isThere_12 : decode cX3_isThere 12 = .ok (.iconst 1, 1) := by decide +kernel
theorem dX3_isThere_13 : decode cX3_isThere 13 = .ok (.goto 4, 3) := by decide +kernel
theorem dX3_isThere_16 : decode cX3_isThere 16 = .ok (.iconst 0, 1) := by decide +kernel
theorem dX3_isThere_17 : decode cX3_isThere 17 = .ok (.ireturn, 1) := by decide +kernel
set_option maxRecDepth 20000 in
theorem ggX3_addRow_X3_isFull : GoodIn wsX3_addRow wsX3_isFull := goodIn_r _ [6, 1, 7, 8, 9, 10, 11] (by decide +kernel) (by decide +kernel)
set_option maxRecDepth 20000 in
theorem gX3_addRow_X3_isFull : GoodIn wsX3_addRow (wsV RX3 31 RX3 yX3_isFull wsX3_isFull) := goodIn_app (goodIn_of _ (by decide +kernel)) ggX3_addRow_X3_isFull
theorem dX3_addRow_0 : decode cX3_addRow 0 = .ok (.aload_n 0, 1) := by decide +kernel
theorem dX3_addRow_1 : decode cX3_addRow 1 = .ok (.invokevirtual 31, 3) := by decide +kernel
theorem dX3_addRow_4 : decode cX3_addRow 4 = .ok (.ifCond .eq 5, 3) := by decide +kernel
theorem dX3_addRow_7 : decode cX3_addRow 7 = .ok (.iconst (-1), 1) := by decide +kernel
theorem dX3_addRow_8 : decode cX3_addRow 8 = .ok (.ireturn, 1) := by decide +kernel
theorem dX3_addRow_9 : decode cX3_addRow 9 = .ok (.aload_n 0, 1) := by decide +kernel
theorem dX3_addRow_10 : decode cX3_addRow 10 = .ok (.dup, 1) := by decide +kernel
theorem dX3_addRow_11 : decode cX3_addRow 11 = .ok (.getfield 28, 3) := by decide +kernel
theorem dX3_addRow_14 : decode cX3_addRow 14 = .ok (.iconst 1, 1) := by decide +kernel
theorem dX3_addRow_15 : decode cX3_addRow 15 = .ok (.iadd, 1) := by decide +kernel
theorem dX3_addRow_16 : decode cX3_addRow 16 = .ok (.putfield 28, 3) := by decide +kernel
theorem dX3_addRow_19 : decode cX3_addRow 19 = .ok (.aload_n 0, 1) := by decide +kernel
theorem dX3_addRow_20 : decode cX3_addRow 20 = .ok (.getfield 28, 3) := by decide +kernel
theorem dX3_addRow_23 : decode cX3_addRow 23 = .ok (.iconst 1, 1) := by decide +kernel
theorem dX3_addRow_24 : decode cX3_addRow 24 = .ok (.isub, 1) := by decide +kernel
theorem dX3_addRow_25 : decode cX3_addRow 25 = .ok (.ireturn, 1) := by decide +kernel
set_option maxRecDepth 20000 in
theorem ggX3_at_X3_hasCell : GoodIn wsX3_at wsX3_hasCell := goodIn_r _ [7, 8, 2, 9, 10, 11, 12] (by decide +kernel) (by decide +kernel)
set_option maxRecDepth 20000 in
theorem gX3_at_X3_hasCell : GoodIn wsX3_at (wsV RX3 35 RX3 yX3_hasCell wsX3_hasCell) := goodIn_app (goodIn_of _ (by decide +kernel)) ggX3_at_X3_hasCell
theorem dX3_at_0 : decode cX3_at 0 = .ok (.aload_n 0, 1) := by decide +kernel
theorem dX3_at_1 : decode cX3_at 1 = .ok (.iload_n 1, 1) := by decide +kernel
theorem dX3_at_2 : decode cX3_at 2 = .ok (.iload_n 2, 1) := by decide +kernel
theorem dX3_at_3 : decode cX3_at 3 = .ok (.invokevirtual 35, 3) := by decide +kernel
theorem dX3_at_6 : decode cX3_at 6 = .ok (.ifCond .eq 19, 3) := by decide +kernel
theorem dX3_at_9 : decode cX3_at 9 = .ok (.aload_n 0, 1) := by decide +kernel
theorem dX3_at_10 : decode cX3_at 10 = .ok (.getfield 24, 3) := by decide +kernel
theorem dX3_at_13 : decode cX3_at 13 = .ok (.iload_n 1, 1) := by decide +kernel
theorem dX3_at_14 : decode cX3_at 14 = .ok (.aload_n 0, 1) := by decide +kernel
theorem dX3_at_15 : decode cX3_at 15 = .ok (.getfield 21, 3) := by decide +kernel
theorem dX3_at_18 : decode cX3_at 18 = .ok (.imul, 1) := by decide +kernel
theorem dX3_at_19 : decode cX3_at 19 = .ok (.iload_n 2, 1) := by decide +kernel
theorem dX3_at_20 : decode cX3_at 20 = .ok (.iadd, 1) := by decide +kernel
theorem dX3_at_21 : decode cX3_at 21 = .ok (.iaload, 1) := by decide +kernel
theorem dX3_at_22 : decode cX3_at 22 = .ok (.goto 4, 3) := by decide +kernel
theorem dX3_at_25 : decode cX3_at 25 = .ok (.iconst (-1), 1) := by decide +kernel
theorem dX3_at_26 : decode cX3_at 26 = .ok (.ireturn, 1) := by decide +kernel
set_option maxRecDepth 20000 in
theorem ggX3_put_X3_hasCell : GoodIn wsX3_put wsX3_hasCell := goodIn_r _ [7, 8, 2, 9, 10, 11, 12] (by decide +kernel) (by decide +kernel)
set_option maxRecDepth 20000 in
theorem gX3_put_X3_hasCell : GoodIn wsX3_put (wsV RX3 35 RX3 yX3_hasCell wsX3_hasCell) := goodIn_app (goodIn_of _ (by decide +kernel)) ggX3_put_X3_hasCell
theorem dX3_put_0 : decode cX3_put 0 = .ok (.aload_n 0, 1) := by decide +kernel
theorem dX3_put_1 : decode cX3_put 1 = .ok (.iload_n 1, 1) := by decide +kernel
theorem dX3_put_2 : decode cX3_put 2 = .ok (.iload_n 2, 1) := by decide +kernel
theorem dX3_put_3 : decode cX3_put 3 = .ok (.invokevirtual 35, 3) := by decide +kernel
theorem dX3_put_6 : decode cX3_put 6 = .ok (.ifCond .eq 17, 3) := by decide +kernel
theorem dX3_put_9 : decode cX3_put 9 = .ok (.aload_n 0, 1) := by decide +kernel
theorem dX3_put_10 : decode cX3_put 10 = .ok (.getfield 24, 3) := by decide +kernel
theorem dX3_put_13 : decode cX3_put 13 = .ok (.iload_n 1, 1) := by decide +kernel
theorem dX3_put_14 : decode cX3_put 14 = .ok (.aload_n 0, 1) := by decide +kernel
theorem dX3_put_15 : decode cX3_put 15 = .ok (.getfield 21, 3) := by decide +kernel
theorem dX3_put_18 : decode cX3_put 18 = .ok (.imul, 1) := by decide +kernel
theorem dX3_put_19 : decode cX3_put 19 = .ok (.iload_n 2, 1) := by decide +kernel
theorem dX3_put_20 : decode cX3_put 20 = .ok (.iadd, 1) := by decide +kernel
theorem dX3_put_21 : decode cX3_put 21 = .ok (.iload_n 3, 1) := by decide +kernel
theorem dX3_put_22 : decode cX3_put 22 = .ok (.iastore, 1) := by decide +kernel
theorem dX3_put_23 : decode cX3_put 23 = .ok (.return_, 1) := by decide +kernel
theorem dX3_hasCell_0 : decode cX3_hasCell 0 = .ok (.iload_n 1, 1) := by decide +kernel
theorem dX3_hasCell_1 : decode cX3_hasCell 1 = .ok (.ifCond .lt 27, 3) := by decide +kernel
theorem dX3_hasCell_4 : decode cX3_hasCell 4 = .ok (.iload_n 1, 1) := by decide +kernel
theorem dX3_hasCell_5 : decode cX3_hasCell 5 = .ok (.aload_n 0, 1) := by decide +kernel
theorem dX3_hasCell_6 : decode cX3_hasCell 6 = .ok (.getfield 28, 3) := by decide +kernel
theorem dX3_hasCell_9 : decode cX3_hasCell 9 = .ok (.if_icmp .ge 19, 3) := by decide +kernel
theorem dX3_hasCell_12 : decode cX3_hasCell 12 = .ok (.iload_n 2, 1) := by decide +kernel
theorem dX3_hasCell_13 : decode cX3_hasCell 13 = .ok (.ifCond .lt 15, 3) := by decide +kernel
theorem dX3_hasCell_16 : decode cX3_hasCell 16 = .ok (.iload_n 2, 1) := by decide +kernel
theorem dX3_hasCell_17 : decode cX3_hasCell 17 = .ok (.aload_n 0, 1) := by decide +kernel
theorem dX3_hasCell_18 : decode cX3_hasCell 18 = .ok (.getfield 21, 3) := by decide +kernel
theorem dX3_hasCell_21 : decode cX3_hasCell 21 = .ok (.if_icmp .ge 7, 3) := by decide +kernel
theorem dX3_hasCell_24 : decode cX3_hasCell 24 = .ok (.iconst 1, 1) := by decide +kernel
theorem dX3_hasCell_25 : decode cX3_hasCell 25 = .ok (.goto 4, 3) := by decide +kernel
theorem dX3_hasCell_28 : decode cX3_hasCell 28 = .ok (.iconst 0, 1) := by decide +kernel
theorem dX3_hasCell_29 : decode cX3_hasCell 29 = .ok (.ireturn, 1) := by decide +kernel
theorem dJ6_bitCount_0f7a4_0 : decode cJ6_bitCount_0f7a4 0 = .ok (.iload_n 0, 1) := by decide +kernel
theorem dJ6_bitCount_0f7a4_1 : decode cJ6_bitCount_0f7a4 1 = .ok (.iload_n 0, 1) := by decide +kernel
theorem dJ6_bitCount_0f7a4_2 : decode cJ6_bitCount_0f7a4 2 = .ok (.iconst 1, 1) := by decide +kernel
theorem dJ6_bitCount_0f7a4_3 : decode cJ6_bitCount_0f7a4 3 = .ok (.iushr, 1) := by decide +kernel
theorem dJ6_bitCount_0f7a4_4 : decode cJ6_bitCount_0f7a4 4 = .ok (.ldc_w 265, 3) := by decide +kernel
theorem dJ6_bitCount_0f7a4_7 : decode cJ6_bitCount_0f7a4 7 = .ok (.iand, 1) := by decide +kernel
theorem dJ6_bitCount_0f7a4_8 : decode cJ6_bitCount_0f7a4 8 = .ok (.isub, 1) := by decide +kernel
theorem dJ6_bitCount_0f7a4_9 : decode cJ6_bitCount_0f7a4 9 = .ok (.istore_n 0, 1) := by decide +kernel
theorem dJ6_bitCount_0f7a4_10 : decode cJ6_bitCount_0f7a4 10 = .ok (.iload_n 0, 1) := by decide +kernel
theorem dJ6_bitCount_0f7a4_11 : decode cJ6_bitCount_0f7a4 11 = .ok (.ldc_w 266, 3) := by decide +kernel
theorem dJ6_bitCount_0f7a4_14 : decode cJ6_bitCount_0f7a4 14 = .ok (.iand, 1) := by decide +kernel
theorem dJ6_bitCount_0f7a4_15 : decode cJ6_bitCount_0f7a4 15 = .ok (.iload_n 0, 1) := by decide +kernel
theorem dJ6_bitCount_0f7a4_16 : decode cJ6_bitCount_0f7a4 16 = .ok (.iconst 2, 1) := by decide +kernel
theorem dJ6_bitCount_0f7a4_17 : decode cJ6_bitCount_0f7a4 17 = .ok (.iushr, 1) := by decide +kernel
theorem dJ6_bitCount_0f7a4_18 : decode cJ6_bitCount_0f7a4 18 = .ok (.ldc_w 266, 3) := by decide +kernel
theorem dJ6_bitCount_0f7a4_21 : decode cJ6_bitCount_0f7a4 21 = .ok (.iand, 1) := by decide +kernel
theorem dJ6_bitCount_0f7a4_22 : decode cJ6_bitCount_0f7a4 22 = .ok (.iadd, 1) := by decide +kernel
theorem dJ6_bitCount_0f7a4_23 : decode cJ6_bitCount_0f7a4 23 = .ok (.istore_n 0, 1) := by decide +kernel
theorem dJ6_bitCount_0f7a4_24 : decode cJ6_bitCount_0f7a4 24 = .ok (.iload_n 0, 1) := by decide +kernel
theorem dJ6_bitCount_0f7a4_25 : decode cJ6_bitCount_0f7a4 25 = .ok (.iload_n 0, 1) := by decide +kernel
theorem dJ6_bitCount_0f7a4_26 : decode cJ6_bitCount_0f7a4 26 = .ok (.iconst 4, 1) := by decide +kernel
theorem dJ6_bitCount_0f7a4_27 : decode cJ6_bitCount_0f7a4 27 = .ok (.iushr, 1) := by decide +kernel
theorem dJ6_bitCount_0f7a4_28 : decode cJ6_bitCount_0f7a4 28 = .ok (.iadd, 1) := by decide +kernel
theorem dJ6_bitCount_0f7a4_29 : decode cJ6_bitCount_0f7a4 29 = .ok (.ldc_w 267, 3) := by decide +kernel
theorem dJ6_bitCount_0f7a4_32 : decode cJ6_bitCount_0f7a4 32 = .ok (.iand, 1) := by decide +kernel
theorem dJ6_bitCount_0f7a4_33 : decode cJ6_bitCount_0f7a4 33 = .ok (.istore_n 0, 1) := by decide +kernel
theorem dJ6_bitCount_0f7a4_34 : decode cJ6_bitCount_0f7a4 34 = .ok (.iload_n 0, 1) := by decide +kernel
theorem dJ6_bitCount_0f7a4_35 : decode cJ6_bitCount_0f7a4 35 = .ok (.iload_n 0, 1) := by decide +kernel
theorem dJ6_bitCount_0f7a4_36 : decode cJ6_bitCount_0f7a4 36 = .ok (.bipush 8, 2) := by decide +kernel
theorem dJ6_bitCount_0f7a4_38 : decode cJ6_bitCount_0f7a4 38 = .ok (.iushr, 1) := by decide +kernel
theorem dJ6_bitCount_0f7a4_39 : decode cJ6_bitCount_0f7a4 39 = .ok (.iadd, 1) := by decide +kernel
theorem dJ6_bitCount_0f7a4_40 : decode cJ6_bitCount_0f7a4 40 = .ok (.istore_n 0, 1) := by decide +kernel
theorem dJ6_bitCount_0f7a4_41 : decode cJ6_bitCount_0f7a4 41 = .ok (.iload_n 0, 1) := by decide +kernel
theorem dJ6_bitCount_0f7a4_42 : decode cJ6_bitCount_0f7a4 42 = .ok (.iload_n 0, 1) := by decide +kernel
theorem dJ6_bitCount_0f7a4_43 : decode cJ6_bitCount_0f7a4 43 = .ok (.bipush 16, 2) := by decide +kernel
theorem dJ6_bitCount_0f7a4_45 : decode cJ6_bitCount_0f7a4 45 = .ok (.iushr, 1) := by decide +kernel
theorem dJ6_bitCount_0f7a4_46 : decode cJ6_bitCount_0f7a4 46 = .ok (.iadd, 1) := by decide +kernel
theorem dJ6_bitCount_0f7a4_47 : decode cJ6_bitCount_0f7a4 47 = .ok (.istore_n 0, 1) := by decide +kernel
theorem dJ6_bitCount_0f7a4_48 : decode cJ6_bitCount_0f7a4 48 = .ok (.iload_n 0, 1) := by decide +kernel
theorem dJ6_bitCount_0f7a4_49 : decode cJ6_bitCount_0f7a4 49 = .ok (.bipush 63, 2) := by decide +kernel
theorem dJ6_bitCount_0f7a4_51 : decode cJ6_bitCount_0f7a4 51 = .ok (.iand, 1) := by decide +kernel
theorem dJ6_bitCount_0f7a4_52 : decode cJ6_bitCount_0f7a4 52 = .ok (.ireturn, 1) := by decide +kernel
theorem dJ9_max_7cf53_0 : decode cJ9_max_7cf53 0 = .ok (.iload_n 0, 1) := by decide +kernel
theorem dJ9_max_7cf53_1 : decode cJ9_max_7cf53 1 = .ok (.iload_n 1, 1) := by decide +kernel
theorem dJ9_max_7cf53_2 : decode cJ9_max_7cf53 2 = .ok (.if_icmp .lt 7, 3) := by decide +kernel
theorem dJ9_max_7cf53_5 : decode cJ9_max_7cf53 5 = .ok (.iload_n 0, 1) := by decide +kernel
theorem dJ9_max_7cf53_6 : decode cJ9_max_7cf53 6 = .ok (.goto 4, 3) := by decide +kernel
theorem dJ9_max_7cf53_9 : decode cJ9_max_7cf53 9 = .ok (.iload_n 1, 1) := by decide +kernel
theorem dJ9_max_7cf53_10 : decode cJ9_max_7cf53 10 = .ok (.ireturn, 1) := by decide +kernel
end
section
set_option maxRecDepth 20000 in
theorem ggX4_init_X2_init : GoodIn wsX4_init wsX2_init := goodIn_r _ [24, 25, 2, 3, 26, 17, 18, 27, 28, 29, 30, 31, 32, 33, 34, 35, 36, 37, 38, 39, 40, 67, 68, 69, 70, 57] (by decide +kernel) (by decide +kernel)
set_option maxRecDepth 20000 in
theorem gX4_init_X2_init : GoodIn wsX4_init (wsX2_init) := ggX4_init_X2_init
set_option maxRecDepth 20000 in
theorem ggX4_init_X0_init : GoodIn wsX4_init wsX0_init := goodIn_r _ [43, 44, 2, 3, 45, 17, 18, 46, 47, 29, 30, 31, 32, 33, 34, 35, 36, 37, 38, 39, 40, 67, 68, 69, 70, 64] (by decide +kernel) (by decide +kernel)
set_option maxRecDepth 20000 in
theorem gX4_init_X0_init : GoodIn wsX4_init (wsX0_init) := ggX4_init_X0_init
set_option maxRecDepth 20000 in
theorem ggX4_init_X1_init : GoodIn wsX4_init wsX1_init := goodIn_r _ [50, 51, 2, 3, 52, 17, 18, 53, 54, 55, 29, 30, 31, 32, 33, 34, 35, 36, 37, 38, 39, 40, 67, 68, 69, 70, 65, 66] (by decide +kernel) (by decide +kernel)
set_option maxRecDepth 20000 in
theorem gX4_init_X1_init : GoodIn wsX4_init (wsX1_init) := ggX4_init_X1_init
set_option maxRecDepth 20000 in
theorem ggX4_init_X3_init : GoodIn wsX4_init wsX3_init := goodIn_r _ [30, 31, 2, 3, 32, 33, 34, 35, 36, 37, 38, 39, 40, 67, 68, 69, 70] (by decide +kernel) (by decide +kernel)
set_option maxRecDepth 20000 in
theorem gX4_init_X3_init : GoodIn wsX4_init (wsX3_init) := ggX4_init_X3_init
theorem dX4_init_0 : decode cX4_init 0 = .ok (.aload_n 0, 1) := by decide +kernel
theorem dX4_init_1 : decode cX4_init 1 = .ok (.invokespecial 1, 3) := by decide +kernel
theorem dX4_init_4 : decode cX4_init 4 = .ok (.aload_n 0, 1) := by decide +kernel
theorem dX4_init_5 : decode cX4_init 5 = .ok (.new 7, 3) := by decide +kernel
theorem dX4_init_8 : decode cX4_init 8 = .ok (.dup, 1) := by decide +kernel
theorem dX4_init_9 : decode cX4_init 9 = .ok (.invokespecial 9, 3) := by decide +kernel
theorem dX4_init_12 : decode cX4_init 12 = .ok (.putfield 10, 3) := by decide +kernel
theorem dX4_init_15 : decode cX4_init 15 = .ok (.aload_n 0, 1) := by decide +kernel
theorem dX4_init_16 : decode cX4_init 16 = .ok (.new 16, 3) := by decide +kernel
theorem dX4_init_19 : decode cX4_init 19 = .ok (.dup, 1) := by decide +kernel
theorem dX4_init_20 : decode cX4_init 20 = .ok (.invokespecial 18, 3) := by decide +kernel
theorem dX4_init_23 : decode cX4_init 23 = .ok (.putfield 19, 3) := by decide +kernel
theorem dX4_init_26 : decode cX4_init 26 = .ok (.aload_n 0, 1) := by decide +kernel
theorem dX4_init_27 : decode cX4_init 27 = .ok (.new 23, 3) := by decide +kernel
theorem dX4_init_30 : decode cX4_init 30 = .ok (.dup, 1) := by decide +kernel
theorem dX4_init_31 : decode cX4_init 31 = .ok (.aload_n 0, 1) := by decide +kernel
theorem dX4_init_32 : decode cX4_init 32 = .ok (.getfield 10, 3) := by decide +kernel
theorem dX4_init_35 : decode cX4_init 35 = .ok (.invokespecial 25, 3) := by decide +kernel
theorem dX4_init_38 : decode cX4_init 38 = .ok (.putfield 28, 3) := by decide +kernel
theorem dX4_init_41 : decode cX4_init 41 = .ok (.aload_n 0, 1) := by decide +kernel
theorem dX4_init_42 : decode cX4_init 42 = .ok (.new 32, 3) := by decide +kernel
theorem dX4_init_45 : decode cX4_init 45 = .ok (.dup, 1) := by decide +kernel
theorem dX4_init_46 : decode cX4_init 46 = .ok (.bipush 20, 2) := by decide +kernel
theorem dX4_init_48 : decode cX4_init 48 = .ok (.iconst 4, 1) := by decide +kernel
theorem dX4_init_49 : decode cX4_init 49 = .ok (.invokespecial 34, 3) := by decide +kernel
theorem dX4_init_52 : decode cX4_init 52 = .ok (.putfield 37, 3) := by decide +kernel
theorem dX4_init_55 : decode cX4_init 55 = .ok (.aload_n 0, 1) := by decide +kernel
theorem dX4_init_56 : decode cX4_init 56 = .ok (.new 32, 3) := by decide +kernel
theorem dX4_init_59 : decode cX4_init 59 = .ok (.dup, 1) := by decide +kernel
theorem dX4_init_60 : decode cX4_init 60 = .ok (.sipush 200, 3) := by decide +kernel
theorem dX4_init_63 : decode cX4_init 63 = .ok (.bipush 6, 2) := by decide +kernel
theorem dX4_init_65 : decode cX4_init 65 = .ok (.invokespecial 34, 3) := by decide +kernel
theorem dX4_init_68 : decode cX4_init 68 = .ok (.putfield 41, 3) := by decide +kernel
theorem dX4_init_71 : decode cX4_init 71 = .ok (.aload_n 0, 1) := by decide +kernel
theorem dX4_init_72 : decode cX4_init 72 = .ok (.iconst 0, 1) := by decide +kernel
theorem dX4_init_73 : decode cX4_init 73 = .ok (.putfield 44, 3) := by decide +kernel
theorem dX4_init_76 : decode cX4_init 76 = .ok (.return_, 1) := by decide +kernel
set_option maxRecDepth 20000 in
theorem ggX4_person_X2_add : GoodIn wsX4_person wsX2_add := goodIn_r _ [6, 7, 8, 9, 5, 10, 11, 12, 13, 14, 15, 16, 17, 18, 19, 20, 21, 22, 23, 24, 25, 26, 27, 28, 29, 30, 31, 38, 39, 40, 41, 42] (by decide +kernel) (by decide +kernel)
set_option maxRecDepth 20000 in
theorem gX4_person_X2_add : GoodIn wsX4_person (wsV RX4 48 RX2 yX2_add wsX2_add) := goodIn_app (goodIn_of _ (by decide +kernel)) ggX4_person_X2_add
theorem dX4_person_0 : decode cX4_person 0 = .ok (.aload_n 0, 1) := by decide +kernel
theorem dX4_person_1 : decode cX4_person 1 = .ok (.getfield 10, 3) := by decide +kernel
theorem dX4_person_4 : decode cX4_person 4 = .ok (.iload_n 1, 1) := by decide +kernel
theorem dX4_person_5 : decode cX4_person 5 = .ok (.iload_n 2, 1) := by decide +kernel
theorem dX4_person_6 : decode cX4_person 6 = .ok (.iload_n 3, 1) := by decide +kernel
theorem dX4_person_7 : decode cX4_person 7 = .ok (.iload 4, 2) := by decide +kernel
theorem dX4_person_9 : decode cX4_person 9 = .ok (.invokevirtual 48, 3) := by decide +kernel
theorem dX4_person_12 : decode cX4_person 12 = .ok (.ireturn, 1) := by decide +kernel
set_option maxRecDepth 20000 in
theorem ggX4_mark_X2_setMark : GoodIn wsX4_mark wsX2_setMark := goodIn_r _ [6, 7, 8, 9, 10, 5, 11, 12, 13, 14, 15, 16, 17, 18, 19, 20, 21, 22, 23, 24, 25, 26, 27, 28, 29, 30, 31, 32, 33, 40, 41, 42, 43, 44] (by decide +kernel) (by decide +kernel)
set_option maxRecDepth 20000 in
theorem gX4_mark_X2_setMark : GoodIn wsX4_mark (wsV RX4 52 RX2 yX2_setMark wsX2_setMark) := goodIn_app (goodIn_of _ (by decide +kernel)) ggX4_mark_X2_setMark
theorem dX4_mark_0 : decode cX4_mark 0 = .ok (.aload_n 0, 1) := by decide +kernel
theorem dX4_mark_1 : decode cX4_mark 1 = .ok (.getfield 10, 3) := by decide +kernel
theorem dX4_mark_4 : decode cX4_mark 4 = .ok (.iload_n 1, 1) := by decide +kernel
theorem dX4_mark_5 : decode cX4_mark 5 = .ok (.iload_n 2, 1) := by decide +kernel
theorem dX4_mark_6 : decode cX4_mark 6 = .ok (.iload_n 3, 1) := by decide +kernel
theorem dX4_mark_7 : decode cX4_mark 7 = .ok (.invokevirtual 52, 3) := by decide +kernel
theorem dX4_mark_10 : decode cX4_mark 10 = .ok (.ireturn, 1) := by decide +kernel
set_option maxRecDepth 20000 in
theorem ggX4_house_X0_add : GoodIn wsX4_house wsX0_add := goodIn_r _ [6, 7, 8, 9, 10, 11, 12, 13, 14, 15, 16, 17, 18, 19, 20, 21, 22, 23, 24, 25, 26, 27, 28, 35, 36, 37, 38, 39] (by decide +kernel) (by decide +kernel)
set_option maxRecDepth 20000 in
theorem gX4_house_X0_add : GoodIn wsX4_house (wsV RX4 56 RX0 yX0_add wsX0_add) := goodIn_app (goodIn_of _ (by decide +kernel)) ggX4_house_X0_add
theorem dX4_house_0 : decode cX4_house 0 = .ok (.aload_n 0, 1) := by decide +kernel
theorem dX4_house_1 : decode cX4_house 1 = .ok (.getfield 19, 3) := by decide +kernel
theorem dX4_house_4 : decode cX4_house 4 = .ok (.iload_n 1, 1) := by decide +kernel
theorem dX4_house_5 : decode cX4_house 5 = .ok (.iload_n 2, 1) := by decide +kernel
theorem dX4_house_6 : decode cX4_house 6 = .ok (.iload_n 3, 1) := by decide +kernel
theorem dX4_house_7 : decode cX4_house 7 = .ok (.iload 4, 2) := by decide +kernel
theorem dX4_house_9 : decode cX4_house 9 = .ok (.iload 5, 2) := by decide +kernel
theorem dX4_house_11 : decode cX4_house 11 = .ok (.invokevirtual 56, 3) := by decide +kernel
theorem dX4_house_14 : decode cX4_house 14 = .ok (.ireturn, 1) := by decide +kernel
set_option maxRecDepth 20000 in
theorem ggX4_day_X4_isDay : GoodIn wsX4_day wsX4_isDay := goodIn_r _ [5] (by decide +kernel) (by decide +kernel)
set_option maxRecDepth 20000 in
theorem gX4_day_X4_isDay : GoodIn wsX4_day (va_wsS RX4 59 yX4_isDay wsX4_isDay) := goodIn_app (goodIn_of _ (by decide +kernel)) ggX4_day_X4_isDay
theorem dX4_day_0 : decode cX4_day 0 = .ok (.iload_n 1, 1) := by decide +kernel
theorem dX4_day_1 : decode cX4_day 1 = .ok (.invokestatic 59, 3) := by decide +kernel
theorem dX4_day_4 : decode cX4_day 4 = .ok (.ifCond .eq 11, 3) := by decide +kernel
theorem dX4_day_7 : decode cX4_day 7 = .ok (.iload_n 1, 1) := by decide +kernel
theorem dX4_day_8 : decode cX4_day 8 = .ok (.aload_n 0, 1) := by decide +kernel
theorem dX4_day_9 : decode cX4_day 9 = .ok (.getfield 44, 3) := by decide +kernel
theorem dX4_day_12 : decode cX4_day 12 = .ok (.if_icmp .ge 5, 3) := by decide +kernel
theorem dX4_day_15 : decode cX4_day 15 = .ok (.iconst 0, 1) := by decide +kernel
theorem dX4_day_16 : decode cX4_day 16 = .ok (.ireturn, 1) := by decide +kernel
theorem dX4_day_17 : decode cX4_day 17 = .ok (.aload_n 0, 1) := by decide +kernel
theorem dX4_day_18 : decode cX4_day 18 = .ok (.iload_n 1, 1) := by decide +kernel
theorem dX4_day_19 : decode cX4_day 19 = .ok (.putfield 44, 3) := by decide +kernel
theorem dX4_day_22 : decode cX4_day 22 = .ok (.iconst 1, 1) := by decide +kernel
theorem dX4_day_23 : decode cX4_day 23 = .ok (.ireturn, 1) := by decide +kernel
set_option maxRecDepth 20000 in
theorem ggX4_one_X2_join : GoodIn wsX4_one wsX2_join := goodIn_r _ [6, 7, 8, 9, 10, 5, 11, 12, 13, 14, 15, 16, 17, 18, 19, 20, 21, 22, 23, 24, 25, 26, 27, 28, 29, 30, 31, 32, 33, 34, 35, 36, 37, 38, 39, 40, 41, 42, 43, 44, 45, 46, 47, 48, 49, 50, 51, 58, 59, 60, 61, 62] (by decide +kernel) (by decide +kernel)
set_option maxRecDepth 20000 in
theorem gX4_one_X2_join : GoodIn wsX4_one (wsV RX4 63 RX2 yX2_join wsX2_join) := goodIn_app (goodIn_of _ (by decide +kernel)) ggX4_one_X2_join
theorem dX4_one_0 : decode cX4_one 0 = .ok (.aload_n 0, 1) := by decide +kernel
theorem dX4_one_1 : decode cX4_one 1 = .ok (.getfield 10, 3) := by decide +kernel
theorem dX4_one_4 : decode cX4_one 4 = .ok (.iload_n 1, 1) := by decide +kernel
theorem dX4_one_5 : decode cX4_one 5 = .ok (.iload_n 2, 1) := by decide +kernel
theorem dX4_one_6 : decode cX4_one 6 = .ok (.invokevirtual 63, 3) := by decide +kernel
theorem dX4_one_9 : decode cX4_one 9 = .ok (.ireturn, 1) := by decide +kernel
set_option maxRecDepth 20000 in
theorem ggX4_part_X2_leave : GoodIn wsX4_part wsX2_leave := goodIn_r _ [6, 7, 8, 9, 10, 5, 11, 12, 13, 14, 15, 16, 17, 18, 19, 20, 21, 22, 23, 24, 25, 26, 27, 34, 35, 36, 37, 38] (by decide +kernel) (by decide +kernel)
set_option maxRecDepth 20000 in
theorem gX4_part_X2_leave : GoodIn wsX4_part (wsV RX4 67 RX2 yX2_leave wsX2_leave) := goodIn_app (goodIn_of _ (by decide +kernel)) ggX4_part_X2_leave
theorem dX4_part_0 : decode cX4_part 0 = .ok (.aload_n 0, 1) := by decide +kernel
theorem dX4_part_1 : decode cX4_part 1 = .ok (.getfield 10, 3) := by decide +kernel
theorem dX4_part_4 : decode cX4_part 4 = .ok (.iload_n 1, 1) := by decide +kernel
theorem dX4_part_5 : decode cX4_part 5 = .ok (.invokevirtual 67, 3) := by decide +kernel
theorem dX4_part_8 : decode cX4_part 8 = .ok (.ireturn, 1) := by decide +kernel
set_option maxRecDepth 20000 in
theorem ggX4_strike_X2_strikeOut : GoodIn wsX4_strike wsX2_strikeOut := goodIn_r _ [6, 7, 8, 9, 5, 10, 11, 12, 13, 14, 15, 16, 17, 18, 19, 20, 21, 22, 23, 24, 25, 26, 27, 28, 29, 30, 31, 32, 33, 34, 35, 36, 37, 38, 39, 40, 41, 42, 43, 50, 51, 52, 53, 54] (by decide +kernel) (by decide +kernel)
set_option maxRecDepth 20000 in
theorem gX4_strike_X2_strikeOut : GoodIn wsX4_strike (wsV RX4 70 RX2 yX2_strikeOut wsX2_strikeOut) := goodIn_app (goodIn_of _ (by decide +kernel)) ggX4_strike_X2_strikeOut
theorem dX4_strike_0 : decode cX4_strike 0 = .ok (.aload_n 0, 1) := by decide +kernel
theorem dX4_strike_1 : decode cX4_strike 1 = .ok (.getfield 10, 3) := by decide +kernel
theorem dX4_strike_4 : decode cX4_strike 4 = .ok (.iload_n 1, 1) := by decide +kernel
theorem dX4_strike_5 : decode cX4_strike 5 = .ok (.invokevirtual 70, 3) := by decide +kernel
theorem dX4_strike_8 : decode cX4_strike 8 = .ok (.ireturn, 1) := by decide +kernel
set_option maxRecDepth 20000 in
theorem ggX4_name_X0_isThere : GoodIn wsX4_name wsX0_isThere := goodIn_r _ [7, 8, 9, 10, 11, 12, 13, 14, 120, 121, 122, 123, 124] (by decide +kernel) (by decide +kernel)
set_option maxRecDepth 20000 in
theorem gX4_name_X0_isThere : GoodIn wsX4_name (wsV RX4 73 RX0 yX0_isThere wsX0_isThere) := goodIn_app (goodIn_of _ (by decide +kernel)) ggX4_name_X0_isThere
set_option maxRecDepth 20000 in
theorem ggX4_name_X2_isThere : GoodIn wsX4_name wsX2_isThere := goodIn_r _ [19, 20, 21, 10, 11, 12, 13, 14, 125, 121, 122, 123, 124] (by decide +kernel) (by decide +kernel)
set_option maxRecDepth 20000 in
theorem gX4_name_X2_isThere : GoodIn wsX4_name (wsV RX4 76 RX2 yX2_isThere wsX2_isThere) := goodIn_app (goodIn_of _ (by decide +kernel)) ggX4_name_X2_isThere
set_option maxRecDepth 20000 in
theorem ggX4_name_X2_isStruckOut : GoodIn wsX4_name wsX2_isStruckOut := goodIn_r _ [25, 20, 26, 27, 28, 12, 29, 30, 31, 32, 33, 34, 35, 14, 125, 121, 122, 123, 124] (by decide +kernel) (by decide +kernel)
set_option maxRecDepth 20000 in
theorem gX4_name_X2_isStruckOut : GoodIn wsX4_name (wsV RX4 77 RX2 yX2_isStruckOut wsX2_isStruckOut) := goodIn_app (goodIn_of _ (by decide +kernel)) ggX4_name_X2_isStruckOut
set_option maxRecDepth 20000 in
theorem ggX4_name_X4_nameIn : GoodIn wsX4_name wsX4_nameIn := goodIn_r _ [40, 41, 1, 42, 2, 43, 44, 45, 46, 47, 48, 49, 50, 51, 52, 53, 54, 55, 12, 56, 14, 57, 27, 28, 29, 30, 31, 32, 33, 34, 35, 58, 59, 60, 6, 61, 8, 62, 63, 64, 65, 66, 67, 68, 69, 18, 70, 20, 26, 71, 72, 73, 74, 75, 76, 77, 78, 79, 80, 81, 82, 83, 84, 85, 86, 87, 88, 89, 90, 91, 92, 93, 94, 95, 96, 97, 98, 99, 100, 101, 102, 103, 104, 105, 106, 107, 108, 109, 110, 111, 112, 113, 114, 115, 116, 117, 118, 119, 126, 127, 121, 122, 123, 124, 120, 125] (by decide +kernel) (by decide +kernel)
set_option maxRecDepth 20000 in
theorem gX4_name_X4_nameIn : GoodIn wsX4_name (wsV RX4 80 RX4 yX4_nameIn wsX4_nameIn) := goodIn_app (goodIn_of _ (by decide +kernel)) ggX4_name_X4_nameIn
theorem dX4_name_0 : decode cX4_name 0 = .ok (.aload_n 0, 1) := by decide +kernel
theorem dX4_name_1 : decode cX4_name 1 = .ok (.getfield 19, 3) := by decide +kernel
theorem dX4_name_4 : decode cX4_name 4 = .ok (.iload_n 1, 1) := by decide +kernel
theorem dX4_name_5 : decode cX4_name 5 = .ok (.invokevirtual 73, 3) := by decide +kernel
theorem dX4_name_8 : decode cX4_name 8 = .ok (.ifCond .eq 25, 3) := by decide +kernel
theorem dX4_name_11 : decode cX4_name 11 = .ok (.aload_n 0, 1) := by decide +kernel
theorem dX4_name_12 : decode cX4_name 12 = .ok (.getfield 10, 3) := by decide +kernel
theorem dX4_name_15 : decode cX4_name 15 = .ok (.iload_n 2, 1) := by decide +kernel
theorem dX4_name_16 : decode cX4_name 16 = .ok (.invokevirtual 76, 3) := by decide +kernel
theorem dX4_name_19 : decode cX4_name 19 = .ok (.ifCond .eq 14, 3) := by decide +kernel
theorem dX4_name_22 : decode cX4_name 22 = .ok (.aload_n 0, 1) := by decide +kernel
theorem dX4_name_23 : decode cX4_name 23 = .ok (.getfield 10, 3) := by decide +kernel
theorem dX4_name_26 : decode cX4_name 26 = .ok (.iload_n 2, 1) := by decide +kernel
theorem dX4_name_27 : decode cX4_name 27 = .ok (.invokevirtual 77, 3) := by decide +kernel
theorem dX4_name_30 : decode cX4_name 30 = .ok (.ifCond .eq 5, 3) := by decide +kernel
theorem dX4_name_33 : decode cX4_name 33 = .ok (.iconst (-1), 1) := by decide +kernel
theorem dX4_name_34 : decode cX4_name 34 = .ok (.ireturn, 1) := by decide +kernel
theorem dX4_name_35 : decode cX4_name 35 = .ok (.aload_n 0, 1) := by decide +kernel
theorem dX4_name_36 : decode cX4_name 36 = .ok (.iload_n 1, 1) := by decide +kernel
theorem dX4_name_37 : decode cX4_name 37 = .ok (.iload_n 2, 1) := by decide +kernel
theorem dX4_name_38 : decode cX4_name 38 = .ok (.invokevirtual 80, 3) := by decide +kernel
theorem dX4_name_41 : decode cX4_name 41 = .ok (.ireturn, 1) := by decide +kernel
set_option maxRecDepth 20000 in
theorem ggX4_leads_X1_find : GoodIn wsX4_leads wsX1_find := goodIn_r _ [6, 7, 8, 9, 10, 11, 12, 13, 14, 15, 16, 17, 18, 19, 20, 21, 22, 23, 24, 25, 26, 5, 27, 59, 60, 61, 62, 63, 64] (by decide +kernel) (by decide +kernel)
set_option maxRecDepth 20000 in
theorem gX4_leads_X1_find : GoodIn wsX4_leads (wsV RX4 84 RX1 yX1_find wsX1_find) := goodIn_app (goodIn_of _ (by decide +kernel)) ggX4_leads_X1_find
set_option maxRecDepth 20000 in
theorem ggX4_leads_X1_leadsTo : GoodIn wsX4_leads wsX1_leadsTo := goodIn_r _ [31, 7, 32, 14, 15, 16, 11, 17, 18, 19, 20, 21, 22, 23, 13, 33, 34, 35, 5, 36, 37, 38, 39, 40, 41, 42, 43, 44, 45, 46, 47, 48, 49, 50, 51, 8, 9, 10, 12, 59, 60, 61, 62, 63, 64, 65] (by decide +kernel) (by decide +kernel)
set_option maxRecDepth 20000 in
theorem gX4_leads_X1_leadsTo : GoodIn wsX4_leads (wsV RX4 87 RX1 yX1_leadsTo wsX1_leadsTo) := goodIn_app (goodIn_of _ (by decide +kernel)) ggX4_leads_X1_leadsTo
set_option maxRecDepth 20000 in
theorem ggX4_leads_X1_nameAt : GoodIn wsX4_leads wsX1_nameAt := goodIn_r _ [27, 7, 14, 15, 16, 11, 17, 18, 19, 20, 21, 22, 23, 13, 59, 60, 61, 62, 63, 64] (by decide +kernel) (by decide +kernel)
set_option maxRecDepth 20000 in
theorem gX4_leads_X1_nameAt : GoodIn wsX4_leads (wsV RX4 91 RX1 yX1_nameAt wsX1_nameAt) := goodIn_app (goodIn_of _ (by decide +kernel)) ggX4_leads_X1_nameAt
theorem dX4_leads_0 : decode cX4_leads 0 = .ok (.aload_n 0, 1) := by decide +kernel
theorem dX4_leads_1 : decode cX4_leads 1 = .ok (.getfield 28, 3) := by decide +kernel
theorem dX4_leads_4 : decode cX4_leads 4 = .ok (.iload_n 1, 1) := by decide +kernel
theorem dX4_leads_5 : decode cX4_leads 5 = .ok (.iload_n 2, 1) := by decide +kernel
theorem dX4_leads_6 : decode cX4_leads 6 = .ok (.invokevirtual 84, 3) := by decide +kernel
theorem dX4_leads_9 : decode cX4_leads 9 = .ok (.istore_n 3, 1) := by decide +kernel
theorem dX4_leads_10 : decode cX4_leads 10 = .ok (.iload_n 3, 1) := by decide +kernel
theorem dX4_leads_11 : decode cX4_leads 11 = .ok (.iconst (-1), 1) := by decide +kernel
theorem dX4_leads_12 : decode cX4_leads 12 = .ok (.if_icmp .ne 7, 3) := by decide +kernel
theorem dX4_leads_15 : decode cX4_leads 15 = .ok (.iconst (-1), 1) := by decide +kernel
theorem dX4_leads_16 : decode cX4_leads 16 = .ok (.goto 18, 3) := by decide +kernel
theorem dX4_leads_19 : decode cX4_leads 19 = .ok (.aload_n 0, 1) := by decide +kernel
theorem dX4_leads_20 : decode cX4_leads 20 = .ok (.getfield 28, 3) := by decide +kernel
theorem dX4_leads_23 : decode cX4_leads 23 = .ok (.aload_n 0, 1) := by decide +kernel
theorem dX4_leads_24 : decode cX4_leads 24 = .ok (.getfield 28, 3) := by decide +kernel
theorem dX4_leads_27 : decode cX4_leads 27 = .ok (.iload_n 3, 1) := by decide +kernel
theorem dX4_leads_28 : decode cX4_leads 28 = .ok (.invokevirtual 87, 3) := by decide +kernel
theorem dX4_leads_31 : decode cX4_leads 31 = .ok (.invokevirtual 91, 3) := by decide +kernel
theorem dX4_leads_34 : decode cX4_leads 34 = .ok (.ireturn, 1) := by decide +kernel
set_option maxRecDepth 20000 in
theorem ggX4_bridge_X4_areTwoHouses : GoodIn wsX4_bridge wsX4_areTwoHouses := goodIn_r _ [6, 7, 8, 9, 10, 11, 12, 13, 14, 15, 16, 17, 18, 19, 42, 43, 44, 45, 46, 47, 48, 49, 50, 51, 52] (by decide +kernel) (by decide +kernel)
set_option maxRecDepth 20000 in
theorem gX4_bridge_X4_areTwoHouses : GoodIn wsX4_bridge (wsV RX4 94 RX4 yX4_areTwoHouses wsX4_areTwoHouses) := goodIn_app (goodIn_of _ (by decide +kernel)) ggX4_bridge_X4_areTwoHouses
set_option maxRecDepth 20000 in
theorem ggX4_bridge_X4_isDay : GoodIn wsX4_bridge wsX4_isDay := goodIn_r _ [22] (by decide +kernel) (by decide +kernel)
set_option maxRecDepth 20000 in
theorem gX4_bridge_X4_isDay : GoodIn wsX4_bridge (va_wsS RX4 59 yX4_isDay wsX4_isDay) := goodIn_app (goodIn_of _ (by decide +kernel)) ggX4_bridge_X4_isDay
set_option maxRecDepth 20000 in
theorem ggX4_bridge_X3_addRow : GoodIn wsX4_bridge wsX3_addRow := goodIn_r _ [26, 19, 27, 28, 29, 17, 30, 31, 49, 50, 51, 52] (by decide +kernel) (by decide +kernel)
set_option maxRecDepth 20000 in
theorem gX4_bridge_X3_addRow : GoodIn wsX4_bridge (wsV RX4 97 RX3 yX3_addRow wsX3_addRow) := goodIn_app (goodIn_of _ (by decide +kernel)) ggX4_bridge_X3_addRow
set_option maxRecDepth 20000 in
theorem ggX4_bridge_X3_put : GoodIn wsX4_bridge wsX3_put := goodIn_r _ [35, 36, 37, 38, 39, 40, 17, 41, 19, 49, 50, 51, 52] (by decide +kernel) (by decide +kernel)
set_option maxRecDepth 20000 in
theorem gX4_bridge_X3_put : GoodIn wsX4_bridge (wsV RX4 101 RX3 yX3_put wsX3_put) := goodIn_app (goodIn_of _ (by decide +kernel)) ggX4_bridge_X3_put
theorem dX4_bridge_0 : decode cX4_bridge 0 = .ok (.aload_n 0, 1) := by decide +kernel
theorem dX4_bridge_1 : decode cX4_bridge 1 = .ok (.iload_n 1, 1) := by decide +kernel
theorem dX4_bridge_2 : decode cX4_bridge 2 = .ok (.iload_n 2, 1) := by decide +kernel
theorem dX4_bridge_3 : decode cX4_bridge 3 = .ok (.invokevirtual 94, 3) := by decide +kernel
theorem dX4_bridge_6 : decode cX4_bridge 6 = .ok (.ifCond .eq 24, 3) := by decide +kernel
theorem dX4_bridge_9 : decode cX4_bridge 9 = .ok (.iload_n 3, 1) := by decide +kernel
theorem dX4_bridge_10 : decode cX4_bridge 10 = .ok (.invokestatic 59, 3) := by decide +kernel
theorem dX4_bridge_13 : decode cX4_bridge 13 = .ok (.ifCond .eq 17, 3) := by decide +kernel
theorem dX4_bridge_16 : decode cX4_bridge 16 = .ok (.iload 4, 2) := by decide +kernel
theorem dX4_bridge_18 : decode cX4_bridge 18 = .ok (.invokestatic 59, 3) := by decide +kernel
theorem dX4_bridge_21 : decode cX4_bridge 21 = .ok (.ifCond .eq 9, 3) := by decide +kernel
theorem dX4_bridge_24 : decode cX4_bridge 24 = .ok (.iload_n 3, 1) := by decide +kernel
theorem dX4_bridge_25 : decode cX4_bridge 25 = .ok (.iload 4, 2) := by decide +kernel
theorem dX4_bridge_27 : decode cX4_bridge 27 = .ok (.if_icmp .le 5, 3) := by decide +kernel
theorem dX4_bridge_30 : decode cX4_bridge 30 = .ok (.iconst 0, 1) := by decide +kernel
theorem dX4_bridge_31 : decode cX4_bridge 31 = .ok (.ireturn, 1) := by decide +kernel
theorem dX4_bridge_32 : decode cX4_bridge 32 = .ok (.aload_n 0, 1) := by decide +kernel
theorem dX4_bridge_33 : decode cX4_bridge 33 = .ok (.getfield 37, 3) := by decide +kernel
theorem dX4_bridge_36 : decode cX4_bridge 36 = .ok (.invokevirtual 97, 3) := by decide +kernel
theorem dX4_bridge_39 : decode cX4_bridge 39 = .ok (.istore 5, 2) := by decide +kernel
theorem dX4_bridge_41 : decode cX4_bridge 41 = .ok (.iload 5, 2) := by decide +kernel
theorem dX4_bridge_43 : decode cX4_bridge 43 = .ok (.iconst (-1), 1) := by decide +kernel
theorem dX4_bridge_44 : decode cX4_bridge 44 = .ok (.if_icmp .ne 5, 3) := by decide +kernel
theorem dX4_bridge_47 : decode cX4_bridge 47 = .ok (.iconst 0, 1) := by decide +kernel
theorem dX4_bridge_48 : decode cX4_bridge 48 = .ok (.ireturn, 1) := by decide +kernel
theorem dX4_bridge_49 : decode cX4_bridge 49 = .ok (.aload_n 0, 1) := by decide +kernel
theorem dX4_bridge_50 : decode cX4_bridge 50 = .ok (.getfield 37, 3) := by decide +kernel
theorem dX4_bridge_53 : decode cX4_bridge 53 = .ok (.iload 5, 2) := by decide +kernel
theorem dX4_bridge_55 : decode cX4_bridge 55 = .ok (.iconst 0, 1) := by decide +kernel
theorem dX4_bridge_56 : decode cX4_bridge 56 = .ok (.iload_n 1, 1) := by decide +kernel
theorem dX4_bridge_57 : decode cX4_bridge 57 = .ok (.invokevirtual 101, 3) := by decide +kernel
theorem dX4_bridge_60 : decode cX4_bridge 60 = .ok (.aload_n 0, 1) := by decide +kernel
theorem dX4_bridge_61 : decode cX4_bridge 61 = .ok (.getfield 37, 3) := by decide +kernel
theorem dX4_bridge_64 : decode cX4_bridge 64 = .ok (.iload 5, 2) := by decide +kernel
theorem dX4_bridge_66 : decode cX4_bridge 66 = .ok (.iconst 1, 1) := by decide +kernel
theorem dX4_bridge_67 : decode cX4_bridge 67 = .ok (.iload_n 2, 1) := by decide +kernel
theorem dX4_bridge_68 : decode cX4_bridge 68 = .ok (.invokevirtual 101, 3) := by decide +kernel
theorem dX4_bridge_71 : decode cX4_bridge 71 = .ok (.aload_n 0, 1) := by decide +kernel
theorem dX4_bridge_72 : decode cX4_bridge 72 = .ok (.getfield 37, 3) := by decide +kernel
theorem dX4_bridge_75 : decode cX4_bridge 75 = .ok (.iload 5, 2) := by decide +kernel
theorem dX4_bridge_77 : decode cX4_bridge 77 = .ok (.iconst 2, 1) := by decide +kernel
theorem dX4_bridge_78 : decode cX4_bridge 78 = .ok (.iload_n 3, 1) := by decide +kernel
theorem dX4_bridge_79 : decode cX4_bridge 79 = .ok (.invokevirtual 101, 3) := by decide +kernel
theorem dX4_bridge_82 : decode cX4_bridge 82 = .ok (.aload_n 0, 1) := by decide +kernel
theorem dX4_bridge_83 : decode cX4_bridge 83 = .ok (.getfield 37, 3) := by decide +kernel
theorem dX4_bridge_86 : decode cX4_bridge 86 = .ok (.iload 5, 2) := by decide +kernel
theorem dX4_bridge_88 : decode cX4_bridge 88 = .ok (.iconst 3, 1) := by decide +kernel
theorem dX4_bridge_89 : decode cX4_bridge 89 = .ok (.iload 4, 2) := by decide +kernel
theorem dX4_bridge_91 : decode cX4_bridge 91 = .ok (.invokevirtual 101, 3) := by decide +kernel
theorem dX4_bridge_94 : decode cX4_bridge 94 = .ok (.iconst 1, 1) := by decide +kernel
theorem dX4_bridge_95 : decode cX4_bridge 95 = .ok (.ireturn, 1) := by decide +kernel
set_option maxRecDepth 20000 in
theorem ggX4_holds_X4_areTwoHouses : GoodIn wsX4_holds wsX4_areTwoHouses := goodIn_r _ [5, 6, 7, 8, 9, 10, 11, 12, 13, 14, 15, 16, 17, 18, 44, 45, 46, 47, 48, 49, 50, 51, 52, 53, 54] (by decide +kernel) (by decide +kernel)
set_option maxRecDepth 20000 in
theorem gX4_holds_X4_areTwoHouses : GoodIn wsX4_holds (wsV RX4 94 RX4 yX4_areTwoHouses wsX4_areTwoHouses) := goodIn_app (goodIn_of _ (by decide +kernel)) ggX4_holds_X4_areTwoHouses
set_option maxRecDepth 20000 in
theorem ggX4_holds_X4_isDay : GoodIn wsX4_holds wsX4_isDay := goodIn_r _ [21] (by decide +kernel) (by decide +kernel)
set_option maxRecDepth 20000 in
theorem gX4_holds_X4_isDay : GoodIn wsX4_holds (va_wsS RX4 59 yX4_isDay wsX4_isDay) := goodIn_app (goodIn_of _ (by decide +kernel)) ggX4_holds_X4_isDay
set_option maxRecDepth 20000 in
theorem ggX4_holds_X4_isBridged : GoodIn wsX4_holds wsX4_isBridged := goodIn_r _ [25, 26, 27, 28, 29, 16, 30, 18, 31, 32, 33, 34, 35, 36, 37, 38, 39, 40, 44, 45, 46, 47, 48, 49, 51, 52, 53, 54] (by decide +kernel) (by decide +kernel)
set_option maxRecDepth 20000 in
theorem gX4_holds_X4_isBridged : GoodIn wsX4_holds (wsV RX4 105 RX4 yX4_isBridged wsX4_isBridged) := goodIn_app (goodIn_of _ (by decide +kernel)) ggX4_holds_X4_isBridged
set_option maxRecDepth 20000 in
theorem ggX4_holds_X4_oneIf : GoodIn wsX4_holds wsX4_oneIf := goodIn_r _ [43] (by decide +kernel) (by decide +kernel)
set_option maxRecDepth 20000 in
theorem gX4_holds_X4_oneIf : GoodIn wsX4_holds (va_wsS RX4 108 yX4_oneIf wsX4_oneIf) := goodIn_app (goodIn_of _ (by decide +kernel)) ggX4_holds_X4_oneIf
theorem dX4_holds_0 : decode cX4_holds 0 = .ok (.aload_n 0, 1) := by decide +kernel
theorem dX4_holds_1 : decode cX4_holds 1 = .ok (.iload_n 1, 1) := by decide +kernel
theorem dX4_holds_2 : decode cX4_holds 2 = .ok (.iload_n 2, 1) := by decide +kernel
theorem dX4_holds_3 : decode cX4_holds 3 = .ok (.invokevirtual 94, 3) := by decide +kernel
theorem dX4_holds_6 : decode cX4_holds 6 = .ok (.ifCond .eq 10, 3) := by decide +kernel
theorem dX4_holds_9 : decode cX4_holds 9 = .ok (.iload_n 3, 1) := by decide +kernel
theorem dX4_holds_10 : decode cX4_holds 10 = .ok (.invokestatic 59, 3) := by decide +kernel
theorem dX4_holds_13 : decode cX4_holds 13 = .ok (.ifCond .ne 5, 3) := by decide +kernel
theorem dX4_holds_16 : decode cX4_holds 16 = .ok (.iconst (-1), 1) := by decide +kernel
theorem dX4_holds_17 : decode cX4_holds 17 = .ok (.ireturn, 1) := by decide +kernel
theorem dX4_holds_18 : decode cX4_holds 18 = .ok (.aload_n 0, 1) := by decide +kernel
theorem dX4_holds_19 : decode cX4_holds 19 = .ok (.iload_n 1, 1) := by decide +kernel
theorem dX4_holds_20 : decode cX4_holds 20 = .ok (.iload_n 2, 1) := by decide +kernel
theorem dX4_holds_21 : decode cX4_holds 21 = .ok (.iload_n 3, 1) := by decide +kernel
theorem dX4_holds_22 : decode cX4_holds 22 = .ok (.invokevirtual 105, 3) := by decide +kernel
theorem dX4_holds_25 : decode cX4_holds 25 = .ok (.invokestatic 108, 3) := by decide +kernel
theorem dX4_holds_28 : decode cX4_holds 28 = .ok (.ireturn, 1) := by decide +kernel
set_option maxRecDepth 20000 in
theorem ggX4_cross_X0_isThere : GoodIn wsX4_cross wsX0_isThere := goodIn_r _ [7, 8, 9, 10, 11, 12, 13, 14, 149, 150, 151, 152, 153] (by decide +kernel) (by decide +kernel)
set_option maxRecDepth 20000 in
theorem gX4_cross_X0_isThere : GoodIn wsX4_cross (wsV RX4 73 RX0 yX0_isThere wsX0_isThere) := goodIn_app (goodIn_of _ (by decide +kernel)) ggX4_cross_X0_isThere
set_option maxRecDepth 20000 in
theorem ggX4_cross_X4_isHand : GoodIn wsX4_cross wsX4_isHand := goodIn_r _ [18] (by decide +kernel) (by decide +kernel)
set_option maxRecDepth 20000 in
theorem gX4_cross_X4_isHand : GoodIn wsX4_cross (va_wsS RX4 112 yX4_isHand wsX4_isHand) := goodIn_app (goodIn_of _ (by decide +kernel)) ggX4_cross_X4_isHand
set_option maxRecDepth 20000 in
theorem ggX4_cross_X3_isFull : GoodIn wsX4_cross wsX3_isFull := goodIn_r _ [22, 14, 23, 150, 151, 152, 153] (by decide +kernel) (by decide +kernel)
set_option maxRecDepth 20000 in
theorem gX4_cross_X3_isFull : GoodIn wsX4_cross (wsV RX4 115 RX3 yX3_isFull wsX3_isFull) := goodIn_app (goodIn_of _ (by decide +kernel)) ggX4_cross_X3_isFull
set_option maxRecDepth 20000 in
theorem ggX4_cross_X4_crossWith : GoodIn wsX4_cross wsX4_crossWith := goodIn_r _ [27, 28, 1, 29, 30, 31, 32, 33, 34, 35, 36, 37, 38, 39, 12, 40, 14, 41, 42, 43, 44, 45, 46, 47, 48, 49, 50, 51, 52, 53, 54, 55, 56, 57, 6, 58, 8, 59, 60, 61, 62, 17, 63, 64, 65, 66, 67, 68, 69, 70, 71, 72, 73, 74, 75, 76, 77, 78, 79, 80, 81, 82, 83, 84, 85, 86, 87, 88, 89, 90, 91, 92, 93, 94, 95, 96, 97, 98, 99, 100, 101, 102, 103, 104, 105, 106, 107, 108, 109, 110, 111, 112, 113, 114, 115, 116, 117, 118, 119, 120, 121, 122, 123, 124, 125, 126, 127, 128, 129, 130, 131, 20, 21, 22, 23, 132, 133, 134, 135, 136, 143, 144, 145, 146, 147, 148, 154, 155, 150, 151, 152, 153, 149, 156] (by decide +kernel) (by decide +kernel)
set_option maxRecDepth 20000 in
theorem gX4_cross_X4_crossWith : GoodIn wsX4_cross (wsV RX4 119 RX4 yX4_crossWith wsX4_crossWith) := goodIn_app (goodIn_of _ (by decide +kernel)) ggX4_cross_X4_crossWith
set_option maxRecDepth 20000 in
theorem ggX4_cross_X4_enter : GoodIn wsX4_cross wsX4_enter := goodIn_r _ [140, 2, 29, 141, 128, 129, 12, 130, 14, 131, 20, 21, 22, 23, 142, 133, 134, 135, 45, 46, 47, 48, 49, 50, 143, 144, 145, 146, 147, 148, 150, 151, 152, 153] (by decide +kernel) (by decide +kernel)
set_option maxRecDepth 20000 in
theorem gX4_cross_X4_enter : GoodIn wsX4_cross (wsV RX4 123 RX4 yX4_enter wsX4_enter) := goodIn_app (goodIn_of _ (by decide +kernel)) ggX4_cross_X4_enter
theorem dX4_cross_0 : decode cX4_cross 0 = .ok (.aload_n 0, 1) := by decide +kernel
theorem dX4_cross_1 : decode cX4_cross 1 = .ok (.getfield 19, 3) := by decide +kernel
theorem dX4_cross_4 : decode cX4_cross 4 = .ok (.iload_n 1, 1) := by decide +kernel
theorem dX4_cross_5 : decode cX4_cross 5 = .ok (.invokevirtual 73, 3) := by decide +kernel
theorem dX4_cross_8 : decode cX4_cross 8 = .ok (.ifCond .eq 32, 3) := by decide +kernel
theorem dX4_cross_11 : decode cX4_cross 11 = .ok (.aload_n 0, 1) := by decide +kernel
theorem dX4_cross_12 : decode cX4_cross 12 = .ok (.getfield 19, 3) := by decide +kernel
theorem dX4_cross_15 : decode cX4_cross 15 = .ok (.iload_n 2, 1) := by decide +kernel
theorem dX4_cross_16 : decode cX4_cross 16 = .ok (.invokevirtual 73, 3) := by decide +kernel
theorem dX4_cross_19 : decode cX4_cross 19 = .ok (.ifCond .eq 21, 3) := by decide +kernel
theorem dX4_cross_22 : decode cX4_cross 22 = .ok (.iload 4, 2) := by decide +kernel
theorem dX4_cross_24 : decode cX4_cross 24 = .ok (.invokestatic 112, 3) := by decide +kernel
theorem dX4_cross_27 : decode cX4_cross 27 = .ok (.ifCond .eq 13, 3) := by decide +kernel
theorem dX4_cross_30 : decode cX4_cross 30 = .ok (.aload_n 0, 1) := by decide +kernel
theorem dX4_cross_31 : decode cX4_cross 31 = .ok (.getfield 41, 3) := by decide +kernel
theorem dX4_cross_34 : decode cX4_cross 34 = .ok (.invokevirtual 115, 3) := by decide +kernel
theorem dX4_cross_37 : decode cX4_cross 37 = .ok (.ifCond .eq 5, 3) := by decide +kernel
theorem dX4_cross_40 : decode cX4_cross 40 = .ok (.iconst (-1), 1) := by decide +kernel
theorem dX4_cross_41 : decode cX4_cross 41 = .ok (.ireturn, 1) := by decide +kernel
theorem dX4_cross_42 : decode cX4_cross 42 = .ok (.aload_n 0, 1) := by decide +kernel
theorem dX4_cross_43 : decode cX4_cross 43 = .ok (.iload_n 1, 1) := by decide +kernel
theorem dX4_cross_44 : decode cX4_cross 44 = .ok (.iload_n 2, 1) := by decide +kernel
theorem dX4_cross_45 : decode cX4_cross 45 = .ok (.iload_n 3, 1) := by decide +kernel
theorem dX4_cross_46 : decode cX4_cross 46 = .ok (.invokevirtual 119, 3) := by decide +kernel
theorem dX4_cross_49 : decode cX4_cross 49 = .ok (.istore 5, 2) := by decide +kernel
theorem dX4_cross_51 : decode cX4_cross 51 = .ok (.aload_n 0, 1) := by decide +kernel
theorem dX4_cross_52 : decode cX4_cross 52 = .ok (.iload 5, 2) := by decide +kernel
theorem dX4_cross_54 : decode cX4_cross 54 = .ok (.iconst (-1), 1) := by decide +kernel
theorem dX4_cross_55 : decode cX4_cross 55 = .ok (.if_icmp .ne 7, 3) := by decide +kernel
theorem dX4_cross_58 : decode cX4_cross 58 = .ok (.iconst 2, 1) := by decide +kernel
theorem dX4_cross_59 : decode cX4_cross 59 = .ok (.goto 4, 3) := by decide +kernel
theorem dX4_cross_62 : decode cX4_cross 62 = .ok (.iconst 0, 1) := by decide +kernel
theorem dX4_cross_63 : decode cX4_cross 63 = .ok (.iload_n 1, 1) := by decide +kernel
theorem dX4_cross_64 : decode cX4_cross 64 = .ok (.iload_n 3, 1) := by decide +kernel
theorem dX4_cross_65 : decode cX4_cross 65 = .ok (.iload 4, 2) := by decide +kernel
theorem dX4_cross_67 : decode cX4_cross 67 = .ok (.iconst (-1), 1) := by decide +kernel
theorem dX4_cross_68 : decode cX4_cross 68 = .ok (.invokevirtual 123, 3) := by decide +kernel
theorem dX4_cross_71 : decode cX4_cross 71 = .ok (.iload 5, 2) := by decide +kernel
theorem dX4_cross_73 : decode cX4_cross 73 = .ok (.ireturn, 1) := by decide +kernel
set_option maxRecDepth 20000 in
theorem ggX4_back_X0_isThere : GoodIn wsX4_back wsX0_isThere := goodIn_r _ [7, 8, 9, 10, 11, 12, 13, 14, 101, 102, 103, 104, 105] (by decide +kernel) (by decide +kernel)
set_option maxRecDepth 20000 in
theorem gX4_back_X0_isThere : GoodIn wsX4_back (wsV RX4 73 RX0 yX0_isThere wsX0_isThere) := goodIn_app (goodIn_of _ (by decide +kernel)) ggX4_back_X0_isThere
set_option maxRecDepth 20000 in
theorem ggX4_back_X4_isReason : GoodIn wsX4_back wsX4_isReason := goodIn_r _ [18] (by decide +kernel) (by decide +kernel)
set_option maxRecDepth 20000 in
theorem gX4_back_X4_isReason : GoodIn wsX4_back (va_wsS RX4 127 yX4_isReason wsX4_isReason) := goodIn_app (goodIn_of _ (by decide +kernel)) ggX4_back_X4_isReason
set_option maxRecDepth 20000 in
theorem ggX4_back_X4_isHand : GoodIn wsX4_back wsX4_isHand := goodIn_r _ [21] (by decide +kernel) (by decide +kernel)
set_option maxRecDepth 20000 in
theorem gX4_back_X4_isHand : GoodIn wsX4_back (va_wsS RX4 112 yX4_isHand wsX4_isHand) := goodIn_app (goodIn_of _ (by decide +kernel)) ggX4_back_X4_isHand
set_option maxRecDepth 20000 in
theorem ggX4_back_X3_isFull : GoodIn wsX4_back wsX3_isFull := goodIn_r _ [25, 14, 26, 102, 103, 104, 105] (by decide +kernel) (by decide +kernel)
set_option maxRecDepth 20000 in
theorem gX4_back_X3_isFull : GoodIn wsX4_back (wsV RX4 115 RX3 yX3_isFull wsX3_isFull) := goodIn_app (goodIn_of _ (by decide +kernel)) ggX4_back_X3_isFull
set_option maxRecDepth 20000 in
theorem ggX4_back_X0_reasonCounts : GoodIn wsX4_back wsX0_reasonCounts := goodIn_r _ [30, 8, 31, 32, 33, 12, 34, 35, 36, 37, 38, 39, 40, 14, 101, 102, 103, 104, 105] (by decide +kernel) (by decide +kernel)
set_option maxRecDepth 20000 in
theorem gX4_back_X0_reasonCounts : GoodIn wsX4_back (wsV RX4 130 RX0 yX0_reasonCounts wsX0_reasonCounts) := goodIn_app (goodIn_of _ (by decide +kernel)) ggX4_back_X0_reasonCounts
set_option maxRecDepth 20000 in
theorem ggX4_back_X0_isLost : GoodIn wsX4_back wsX0_isLost := goodIn_r _ [44, 8, 31, 32, 33, 12, 34, 35, 36, 37, 38, 39, 40, 14, 101, 102, 103, 104, 105] (by decide +kernel) (by decide +kernel)
set_option maxRecDepth 20000 in
theorem gX4_back_X0_isLost : GoodIn wsX4_back (wsV RX4 133 RX0 yX0_isLost wsX0_isLost) := goodIn_app (goodIn_of _ (by decide +kernel)) ggX4_back_X0_isLost
set_option maxRecDepth 20000 in
theorem ggX4_back_X4_headBehind : GoodIn wsX4_back wsX4_headBehind := goodIn_r _ [48, 49, 50, 51, 52, 53, 54, 55, 56, 57, 58, 59, 12, 60, 14, 61, 32, 33, 34, 35, 36, 37, 38, 39, 40, 62, 63, 64, 65, 66, 67, 68, 69, 70, 71, 72, 73, 74, 75, 76, 77, 78, 79, 80, 95, 96, 97, 98, 99, 100, 106, 107, 102, 103, 104, 105, 108] (by decide +kernel) (by decide +kernel)
set_option maxRecDepth 20000 in
theorem gX4_back_X4_headBehind : GoodIn wsX4_back (wsV RX4 136 RX4 yX4_headBehind wsX4_headBehind) := goodIn_app (goodIn_of _ (by decide +kernel)) ggX4_back_X4_headBehind
set_option maxRecDepth 20000 in
theorem ggX4_back_X4_enter : GoodIn wsX4_back wsX4_enter := goodIn_r _ [84, 2, 85, 86, 87, 88, 12, 89, 14, 90, 23, 24, 25, 26, 91, 92, 93, 94, 35, 36, 37, 38, 39, 40, 95, 96, 97, 98, 99, 100, 102, 103, 104, 105] (by decide +kernel) (by decide +kernel)
set_option maxRecDepth 20000 in
theorem gX4_back_X4_enter : GoodIn wsX4_back (wsV RX4 123 RX4 yX4_enter wsX4_enter) := goodIn_app (goodIn_of _ (by decide +kernel)) ggX4_back_X4_enter
theorem dX4_back_0 : decode cX4_back 0 = .ok (.aload_n 0, 1) := by decide +kernel
theorem dX4_back_1 : decode cX4_back 1 = .ok (.getfield 19, 3) := by decide +kernel
theorem dX4_back_4 : decode cX4_back 4 = .ok (.iload_n 1, 1) := by decide +kernel
theorem dX4_back_5 : decode cX4_back 5 = .ok (.invokevirtual 73, 3) := by decide +kernel
theorem dX4_back_8 : decode cX4_back 8 = .ok (.ifCond .eq 36, 3) := by decide +kernel
theorem dX4_back_11 : decode cX4_back 11 = .ok (.iload_n 3, 1) := by decide +kernel
theorem dX4_back_12 : decode cX4_back 12 = .ok (.invokestatic 127, 3) := by decide +kernel
theorem dX4_back_15 : decode cX4_back 15 = .ok (.ifCond .eq 29, 3) := by decide +kernel
theorem dX4_back_18 : decode cX4_back 18 = .ok (.iload 4, 2) := by decide +kernel
theorem dX4_back_20 : decode cX4_back 20 = .ok (.invokestatic 112, 3) := by decide +kernel
theorem dX4_back_23 : decode cX4_back 23 = .ok (.ifCond .eq 21, 3) := by decide +kernel
theorem dX4_back_26 : decode cX4_back 26 = .ok (.iload 5, 2) := by decide +kernel
theorem dX4_back_28 : decode cX4_back 28 = .ok (.invokestatic 112, 3) := by decide +kernel
theorem dX4_back_31 : decode cX4_back 31 = .ok (.ifCond .eq 13, 3) := by decide +kernel
theorem dX4_back_34 : decode cX4_back 34 = .ok (.aload_n 0, 1) := by decide +kernel
theorem dX4_back_35 : decode cX4_back 35 = .ok (.getfield 41, 3) := by decide +kernel
theorem dX4_back_38 : decode cX4_back 38 = .ok (.invokevirtual 115, 3) := by decide +kernel
theorem dX4_back_41 : decode cX4_back 41 = .ok (.ifCond .eq 5, 3) := by decide +kernel
theorem dX4_back_44 : decode cX4_back 44 = .ok (.iconst (-1), 1) := by decide +kernel
theorem dX4_back_45 : decode cX4_back 45 = .ok (.ireturn, 1) := by decide +kernel
theorem dX4_back_46 : decode cX4_back 46 = .ok (.iload 4, 2) := by decide +kernel
theorem dX4_back_48 : decode cX4_back 48 = .ok (.iload 5, 2) := by decide +kernel
theorem dX4_back_50 : decode cX4_back 50 = .ok (.if_icmp .eq 30, 3) := by decide +kernel
theorem dX4_back_53 : decode cX4_back 53 = .ok (.aload_n 0, 1) := by decide +kernel
theorem dX4_back_54 : decode cX4_back 54 = .ok (.getfield 19, 3) := by decide +kernel
theorem dX4_back_57 : decode cX4_back 57 = .ok (.iload_n 1, 1) := by decide +kernel
theorem dX4_back_58 : decode cX4_back 58 = .ok (.iload_n 3, 1) := by decide +kernel
theorem dX4_back_59 : decode cX4_back 59 = .ok (.invokevirtual 130, 3) := by decide +kernel
theorem dX4_back_62 : decode cX4_back 62 = .ok (.ifCond .eq 18, 3) := by decide +kernel
theorem dX4_back_65 : decode cX4_back 65 = .ok (.aload_n 0, 1) := by decide +kernel
theorem dX4_back_66 : decode cX4_back 66 = .ok (.getfield 19, 3) := by decide +kernel
theorem dX4_back_69 : decode cX4_back 69 = .ok (.iload_n 1, 1) := by decide +kernel
theorem dX4_back_70 : decode cX4_back 70 = .ok (.invokevirtual 133, 3) := by decide +kernel
theorem dX4_back_73 : decode cX4_back 73 = .ok (.ifCond .ne 7, 3) := by decide +kernel
theorem dX4_back_76 : decode cX4_back 76 = .ok (.iconst 1, 1) := by decide +kernel
theorem dX4_back_77 : decode cX4_back 77 = .ok (.goto 4, 3) := by decide +kernel
theorem dX4_back_80 : decode cX4_back 80 = .ok (.iconst 0, 1) := by decide +kernel
theorem dX4_back_81 : decode cX4_back 81 = .ok (.istore 6, 2) := by decide +kernel
theorem dX4_back_83 : decode cX4_back 83 = .ok (.iload 6, 2) := by decide +kernel
theorem dX4_back_85 : decode cX4_back 85 = .ok (.ifCond .eq 12, 3) := by decide +kernel
theorem dX4_back_88 : decode cX4_back 88 = .ok (.aload_n 0, 1) := by decide +kernel
theorem dX4_back_89 : decode cX4_back 89 = .ok (.iload_n 1, 1) := by decide +kernel
theorem dX4_back_90 : decode cX4_back 90 = .ok (.iload_n 2, 1) := by decide +kernel
theorem dX4_back_91 : decode cX4_back 91 = .ok (.invokevirtual 136, 3) := by decide +kernel
theorem dX4_back_94 : decode cX4_back 94 = .ok (.goto 4, 3) := by decide +kernel
theorem dX4_back_97 : decode cX4_back 97 = .ok (.iconst (-1), 1) := by decide +kernel
theorem dX4_back_98 : decode cX4_back 98 = .ok (.istore 7, 2) := by decide +kernel
theorem dX4_back_100 : decode cX4_back 100 = .ok (.aload_n 0, 1) := by decide +kernel
theorem dX4_back_101 : decode cX4_back 101 = .ok (.iload 7, 2) := by decide +kernel
theorem dX4_back_103 : decode cX4_back 103 = .ok (.iconst (-1), 1) := by decide +kernel
theorem dX4_back_104 : decode cX4_back 104 = .ok (.if_icmp .ne 7, 3) := by decide +kernel
theorem dX4_back_107 : decode cX4_back 107 = .ok (.iconst 3, 1) := by decide +kernel
theorem dX4_back_108 : decode cX4_back 108 = .ok (.goto 4, 3) := by decide +kernel
theorem dX4_back_111 : decode cX4_back 111 = .ok (.iconst 1, 1) := by decide +kernel
theorem dX4_back_112 : decode cX4_back 112 = .ok (.iload_n 1, 1) := by decide +kernel
theorem dX4_back_113 : decode cX4_back 113 = .ok (.iload_n 2, 1) := by decide +kernel
theorem dX4_back_114 : decode cX4_back 114 = .ok (.iload 4, 2) := by decide +kernel
theorem dX4_back_116 : decode cX4_back 116 = .ok (.iload 5, 2) := by decide +kernel
theorem dX4_back_118 : decode cX4_back 118 = .ok (.invokevirtual 123, 3) := by decide +kernel
theorem dX4_back_121 : decode cX4_back 121 = .ok (.iload 7, 2) := by decide +kernel
theorem dX4_back_123 : decode cX4_back 123 = .ok (.ireturn, 1) := by decide +kernel
set_option maxRecDepth 20000 in
theorem ggX4_lose_X0_isThere : GoodIn wsX4_lose wsX0_isThere := goodIn_r _ [6, 7, 8, 9, 10, 11, 12, 13, 42, 43, 44, 45, 46] (by decide +kernel) (by decide +kernel)
set_option maxRecDepth 20000 in
theorem gX4_lose_X0_isThere : GoodIn wsX4_lose (wsV RX4 73 RX0 yX0_isThere wsX0_isThere) := goodIn_app (goodIn_of _ (by decide +kernel)) ggX4_lose_X0_isThere
set_option maxRecDepth 20000 in
theorem ggX4_lose_X0_isLost : GoodIn wsX4_lose wsX0_isLost := goodIn_r _ [17, 7, 18, 19, 20, 11, 21, 22, 23, 24, 25, 26, 27, 13, 42, 43, 44, 45, 46] (by decide +kernel) (by decide +kernel)
set_option maxRecDepth 20000 in
theorem gX4_lose_X0_isLost : GoodIn wsX4_lose (wsV RX4 133 RX0 yX0_isLost wsX0_isLost) := goodIn_app (goodIn_of _ (by decide +kernel)) ggX4_lose_X0_isLost
set_option maxRecDepth 20000 in
theorem ggX4_lose_X0_setLost : GoodIn wsX4_lose wsX0_setLost := goodIn_r _ [31, 7, 32, 33, 34, 11, 35, 22, 23, 24, 25, 26, 27, 13, 42, 43, 44, 45, 46] (by decide +kernel) (by decide +kernel)
set_option maxRecDepth 20000 in
theorem gX4_lose_X0_setLost : GoodIn wsX4_lose (wsV RX4 139 RX0 yX0_setLost wsX0_setLost) := goodIn_app (goodIn_of _ (by decide +kernel)) ggX4_lose_X0_setLost
theorem dX4_lose_0 : decode cX4_lose 0 = .ok (.aload_n 0, 1) := by decide +kernel
theorem dX4_lose_1 : decode cX4_lose 1 = .ok (.getfield 19, 3) := by decide +kernel
theorem dX4_lose_4 : decode cX4_lose 4 = .ok (.iload_n 1, 1) := by decide +kernel
theorem dX4_lose_5 : decode cX4_lose 5 = .ok (.invokevirtual 73, 3) := by decide +kernel
theorem dX4_lose_8 : decode cX4_lose 8 = .ok (.ifCond .eq 14, 3) := by decide +kernel
theorem dX4_lose_11 : decode cX4_lose 11 = .ok (.aload_n 0, 1) := by decide +kernel
theorem dX4_lose_12 : decode cX4_lose 12 = .ok (.getfield 19, 3) := by decide +kernel
theorem dX4_lose_15 : decode cX4_lose 15 = .ok (.iload_n 1, 1) := by decide +kernel
theorem dX4_lose_16 : decode cX4_lose 16 = .ok (.invokevirtual 133, 3) := by decide +kernel
theorem dX4_lose_19 : decode cX4_lose 19 = .ok (.ifCond .eq 5, 3) := by decide +kernel
theorem dX4_lose_22 : decode cX4_lose 22 = .ok (.iconst 0, 1) := by decide +kernel
theorem dX4_lose_23 : decode cX4_lose 23 = .ok (.ireturn, 1) := by decide +kernel
theorem dX4_lose_24 : decode cX4_lose 24 = .ok (.aload_n 0, 1) := by decide +kernel
theorem dX4_lose_25 : decode cX4_lose 25 = .ok (.getfield 19, 3) := by decide +kernel
theorem dX4_lose_28 : decode cX4_lose 28 = .ok (.iload_n 1, 1) := by decide +kernel
theorem dX4_lose_29 : decode cX4_lose 29 = .ok (.iconst 1, 1) := by decide +kernel
theorem dX4_lose_30 : decode cX4_lose 30 = .ok (.invokevirtual 139, 3) := by decide +kernel
theorem dX4_lose_33 : decode cX4_lose 33 = .ok (.iconst 1, 1) := by decide +kernel
theorem dX4_lose_34 : decode cX4_lose 34 = .ok (.ireturn, 1) := by decide +kernel
set_option maxRecDepth 20000 in
theorem ggX4_anew_X0_isThere : GoodIn wsX4_anew wsX0_isThere := goodIn_r _ [6, 7, 8, 9, 10, 11, 12, 13, 46, 47, 48, 49, 50] (by decide +kernel) (by decide +kernel)
set_option maxRecDepth 20000 in
theorem gX4_anew_X0_isThere : GoodIn wsX4_anew (wsV RX4 73 RX0 yX0_isThere wsX0_isThere) := goodIn_app (goodIn_of _ (by decide +kernel)) ggX4_anew_X0_isThere
set_option maxRecDepth 20000 in
theorem ggX4_anew_X0_isLost : GoodIn wsX4_anew wsX0_isLost := goodIn_r _ [17, 7, 18, 19, 20, 11, 21, 22, 23, 24, 25, 26, 27, 13, 46, 47, 48, 49, 50] (by decide +kernel) (by decide +kernel)
set_option maxRecDepth 20000 in
theorem gX4_anew_X0_isLost : GoodIn wsX4_anew (wsV RX4 133 RX0 yX0_isLost wsX0_isLost) := goodIn_app (goodIn_of _ (by decide +kernel)) ggX4_anew_X0_isLost
set_option maxRecDepth 20000 in
theorem ggX4_anew_X0_seedOf : GoodIn wsX4_anew wsX0_seedOf := goodIn_r _ [31, 7, 18, 19, 20, 11, 21, 22, 23, 24, 25, 26, 27, 13, 46, 47, 48, 49, 50] (by decide +kernel) (by decide +kernel)
set_option maxRecDepth 20000 in
theorem gX4_anew_X0_seedOf : GoodIn wsX4_anew (wsV RX4 143 RX0 yX0_seedOf wsX0_seedOf) := goodIn_app (goodIn_of _ (by decide +kernel)) ggX4_anew_X0_seedOf
set_option maxRecDepth 20000 in
theorem ggX4_anew_X0_setLost : GoodIn wsX4_anew wsX0_setLost := goodIn_r _ [35, 7, 36, 37, 38, 11, 39, 22, 23, 24, 25, 26, 27, 13, 46, 47, 48, 49, 50] (by decide +kernel) (by decide +kernel)
set_option maxRecDepth 20000 in
theorem gX4_anew_X0_setLost : GoodIn wsX4_anew (wsV RX4 139 RX0 yX0_setLost wsX0_setLost) := goodIn_app (goodIn_of _ (by decide +kernel)) ggX4_anew_X0_setLost
theorem dX4_anew_0 : decode cX4_anew 0 = .ok (.aload_n 0, 1) := by decide +kernel
theorem dX4_anew_1 : decode cX4_anew 1 = .ok (.getfield 19, 3) := by decide +kernel
theorem dX4_anew_4 : decode cX4_anew 4 = .ok (.iload_n 1, 1) := by decide +kernel
theorem dX4_anew_5 : decode cX4_anew 5 = .ok (.invokevirtual 73, 3) := by decide +kernel
theorem dX4_anew_8 : decode cX4_anew 8 = .ok (.ifCond .eq 26, 3) := by decide +kernel
theorem dX4_anew_11 : decode cX4_anew 11 = .ok (.aload_n 0, 1) := by decide +kernel
theorem dX4_anew_12 : decode cX4_anew 12 = .ok (.getfield 19, 3) := by decide +kernel
theorem dX4_anew_15 : decode cX4_anew 15 = .ok (.iload_n 1, 1) := by decide +kernel
theorem dX4_anew_16 : decode cX4_anew 16 = .ok (.invokevirtual 133, 3) := by decide +kernel
theorem dX4_anew_19 : decode cX4_anew 19 = .ok (.ifCond .eq 15, 3) := by decide +kernel
theorem dX4_anew_22 : decode cX4_anew 22 = .ok (.aload_n 0, 1) := by decide +kernel
theorem dX4_anew_23 : decode cX4_anew 23 = .ok (.getfield 19, 3) := by decide +kernel
theorem dX4_anew_26 : decode cX4_anew 26 = .ok (.iload_n 1, 1) := by decide +kernel
theorem dX4_anew_27 : decode cX4_anew 27 = .ok (.invokevirtual 143, 3) := by decide +kernel
theorem dX4_anew_30 : decode cX4_anew 30 = .ok (.iload_n 2, 1) := by decide +kernel
theorem dX4_anew_31 : decode cX4_anew 31 = .ok (.if_icmp .eq 5, 3) := by decide +kernel
theorem dX4_anew_34 : decode cX4_anew 34 = .ok (.iconst 0, 1) := by decide +kernel
theorem dX4_anew_35 : decode cX4_anew 35 = .ok (.ireturn, 1) := by decide +kernel
theorem dX4_anew_36 : decode cX4_anew 36 = .ok (.aload_n 0, 1) := by decide +kernel
theorem dX4_anew_37 : decode cX4_anew 37 = .ok (.getfield 19, 3) := by decide +kernel
theorem dX4_anew_40 : decode cX4_anew 40 = .ok (.iload_n 1, 1) := by decide +kernel
theorem dX4_anew_41 : decode cX4_anew 41 = .ok (.iconst 0, 1) := by decide +kernel
theorem dX4_anew_42 : decode cX4_anew 42 = .ok (.invokevirtual 139, 3) := by decide +kernel
theorem dX4_anew_45 : decode cX4_anew 45 = .ok (.iconst 1, 1) := by decide +kernel
theorem dX4_anew_46 : decode cX4_anew 46 = .ok (.ireturn, 1) := by decide +kernel
set_option maxRecDepth 20000 in
theorem ggX4_joins_X4_areTwoHouses : GoodIn wsX4_joins wsX4_areTwoHouses := goodIn_r _ [7, 8, 9, 10, 11, 12, 13, 14, 15, 16, 17, 18, 19, 20, 78, 79, 80, 81, 82, 83, 84, 85, 86, 87, 88] (by decide +kernel) (by decide +kernel)
set_option maxRecDepth 20000 in
theorem gX4_joins_X4_areTwoHouses : GoodIn wsX4_joins (wsV RX4 94 RX4 yX4_areTwoHouses wsX4_areTwoHouses) := goodIn_app (goodIn_of _ (by decide +kernel)) ggX4_joins_X4_areTwoHouses
set_option maxRecDepth 20000 in
theorem ggX4_joins_X4_areMarks : GoodIn wsX4_joins wsX4_areMarks := goodIn_r _ [23] (by decide +kernel) (by decide +kernel)
set_option maxRecDepth 20000 in
theorem gX4_joins_X4_areMarks : GoodIn wsX4_joins (va_wsS RX4 146 yX4_areMarks wsX4_areMarks) := goodIn_app (goodIn_of _ (by decide +kernel)) ggX4_joins_X4_areMarks
set_option maxRecDepth 20000 in
theorem ggX4_joins_X1_knownTo : GoodIn wsX4_joins wsX1_knownTo := goodIn_r _ [28, 29, 30, 31, 32, 33, 18, 34, 20, 35, 36, 37, 27, 38, 39, 40, 41, 42, 43, 44, 45, 46, 47, 48, 49, 50, 51, 52, 53, 54, 55, 56, 57, 58, 59, 89, 90, 85, 86, 87, 88, 91] (by decide +kernel) (by decide +kernel)
set_option maxRecDepth 20000 in
theorem gX4_joins_X1_knownTo : GoodIn wsX4_joins (wsV RX4 149 RX1 yX1_knownTo wsX1_knownTo) := goodIn_app (goodIn_of _ (by decide +kernel)) ggX4_joins_X1_knownTo
set_option maxRecDepth 20000 in
theorem ggX4_joins_X2_groupSize : GoodIn wsX4_joins wsX2_groupSize := goodIn_r _ [63, 64, 65, 52, 66, 67, 68, 69, 70, 71, 72, 73, 74, 54, 75, 76, 77, 55, 40, 41, 18, 42, 43, 44, 45, 46, 47, 48, 20, 91, 85, 86, 87, 88] (by decide +kernel) (by decide +kernel)
set_option maxRecDepth 20000 in
theorem gX4_joins_X2_groupSize : GoodIn wsX4_joins (wsV RX4 152 RX2 yX2_groupSize wsX2_groupSize) := goodIn_app (goodIn_of _ (by decide +kernel)) ggX4_joins_X2_groupSize
theorem dX4_joins_0 : decode cX4_joins 0 = .ok (.aload_n 0, 1) := by decide +kernel
theorem dX4_joins_1 : decode cX4_joins 1 = .ok (.iload_n 1, 1) := by decide +kernel
theorem dX4_joins_2 : decode cX4_joins 2 = .ok (.iload_n 2, 1) := by decide +kernel
theorem dX4_joins_3 : decode cX4_joins 3 = .ok (.invokevirtual 94, 3) := by decide +kernel
theorem dX4_joins_6 : decode cX4_joins 6 = .ok (.ifCond .eq 10, 3) := by decide +kernel
theorem dX4_joins_9 : decode cX4_joins 9 = .ok (.iload_n 3, 1) := by decide +kernel
theorem dX4_joins_10 : decode cX4_joins 10 = .ok (.invokestatic 146, 3) := by decide +kernel
theorem dX4_joins_13 : decode cX4_joins 13 = .ok (.ifCond .ne 5, 3) := by decide +kernel
theorem dX4_joins_16 : decode cX4_joins 16 = .ok (.iconst (-1), 1) := by decide +kernel
theorem dX4_joins_17 : decode cX4_joins 17 = .ok (.ireturn, 1) := by decide +kernel
theorem dX4_joins_18 : decode cX4_joins 18 = .ok (.aload_n 0, 1) := by decide +kernel
theorem dX4_joins_19 : decode cX4_joins 19 = .ok (.getfield 28, 3) := by decide +kernel
theorem dX4_joins_22 : decode cX4_joins 22 = .ok (.iload_n 1, 1) := by decide +kernel
theorem dX4_joins_23 : decode cX4_joins 23 = .ok (.invokevirtual 149, 3) := by decide +kernel
theorem dX4_joins_26 : decode cX4_joins 26 = .ok (.istore 4, 2) := by decide +kernel
theorem dX4_joins_28 : decode cX4_joins 28 = .ok (.aload_n 0, 1) := by decide +kernel
theorem dX4_joins_29 : decode cX4_joins 29 = .ok (.getfield 28, 3) := by decide +kernel
theorem dX4_joins_32 : decode cX4_joins 32 = .ok (.iload_n 2, 1) := by decide +kernel
theorem dX4_joins_33 : decode cX4_joins 33 = .ok (.invokevirtual 149, 3) := by decide +kernel
theorem dX4_joins_36 : decode cX4_joins 36 = .ok (.istore 5, 2) := by decide +kernel
theorem dX4_joins_38 : decode cX4_joins 38 = .ok (.iconst 0, 1) := by decide +kernel
theorem dX4_joins_39 : decode cX4_joins 39 = .ok (.istore 6, 2) := by decide +kernel
theorem dX4_joins_41 : decode cX4_joins 41 = .ok (.iconst 0, 1) := by decide +kernel
theorem dX4_joins_42 : decode cX4_joins 42 = .ok (.istore 7, 2) := by decide +kernel
theorem dX4_joins_44 : decode cX4_joins 44 = .ok (.iload 7, 2) := by decide +kernel
theorem dX4_joins_46 : decode cX4_joins 46 = .ok (.bipush 24, 2) := by decide +kernel
theorem dX4_joins_48 : decode cX4_joins 48 = .ok (.if_icmp .ge 56, 3) := by decide +kernel
theorem dX4_joins_51 : decode cX4_joins 51 = .ok (.aload_n 0, 1) := by decide +kernel
theorem dX4_joins_52 : decode cX4_joins 52 = .ok (.getfield 10, 3) := by decide +kernel
theorem dX4_joins_55 : decode cX4_joins 55 = .ok (.iload 4, 2) := by decide +kernel
theorem dX4_joins_57 : decode cX4_joins 57 = .ok (.iload 7, 2) := by decide +kernel
theorem dX4_joins_59 : decode cX4_joins 59 = .ok (.iload_n 3, 1) := by decide +kernel
theorem dX4_joins_60 : decode cX4_joins 60 = .ok (.invokevirtual 152, 3) := by decide +kernel
theorem dX4_joins_63 : decode cX4_joins 63 = .ok (.iconst 1, 1) := by decide +kernel
theorem dX4_joins_64 : decode cX4_joins 64 = .ok (.if_icmp .ne 23, 3) := by decide +kernel
theorem dX4_joins_67 : decode cX4_joins 67 = .ok (.aload_n 0, 1) := by decide +kernel
theorem dX4_joins_68 : decode cX4_joins 68 = .ok (.getfield 10, 3) := by decide +kernel
theorem dX4_joins_71 : decode cX4_joins 71 = .ok (.iload 5, 2) := by decide +kernel
theorem dX4_joins_73 : decode cX4_joins 73 = .ok (.iload 7, 2) := by decide +kernel
theorem dX4_joins_75 : decode cX4_joins 75 = .ok (.iload_n 3, 1) := by decide +kernel
theorem dX4_joins_76 : decode cX4_joins 76 = .ok (.invokevirtual 152, 3) := by decide +kernel
theorem dX4_joins_79 : decode cX4_joins 79 = .ok (.iconst 1, 1) := by decide +kernel
theorem dX4_joins_80 : decode cX4_joins 80 = .ok (.if_icmp .ne 7, 3) := by decide +kernel
theorem dX4_joins_83 : decode cX4_joins 83 = .ok (.iconst 1, 1) := by decide +kernel
theorem dX4_joins_84 : decode cX4_joins 84 = .ok (.goto 4, 3) := by decide +kernel
theorem dX4_joins_87 : decode cX4_joins 87 = .ok (.iconst 0, 1) := by decide +kernel
theorem dX4_joins_88 : decode cX4_joins 88 = .ok (.istore 8, 2) := by decide +kernel
theorem dX4_joins_90 : decode cX4_joins 90 = .ok (.iload 8, 2) := by decide +kernel
theorem dX4_joins_92 : decode cX4_joins 92 = .ok (.ifCond .eq 6, 3) := by decide +kernel
theorem dX4_joins_95 : decode cX4_joins 95 = .ok (.iinc 6 1, 3) := by decide +kernel
theorem dX4_joins_98 : decode cX4_joins 98 = .ok (.iinc 7 1, 3) := by decide +kernel
theorem dX4_joins_101 : decode cX4_joins 101 = .ok (.goto (-57), 3) := by decide +kernel
theorem dX4_joins_104 : decode cX4_joins 104 = .ok (.iload 6, 2) := by decide +kernel
theorem dX4_joins_106 : decode cX4_joins 106 = .ok (.ireturn, 1) := by decide +kernel
set_option maxRecDepth 20000 in
theorem ggX4_least_X0_isThere : GoodIn wsX4_least wsX0_isThere := goodIn_r _ [8, 9, 10, 11, 12, 13, 14, 15, 87, 88, 89, 90, 91] (by decide +kernel) (by decide +kernel)
set_option maxRecDepth 20000 in
theorem gX4_least_X0_isThere : GoodIn wsX4_least (wsV RX4 73 RX0 yX0_isThere wsX0_isThere) := goodIn_app (goodIn_of _ (by decide +kernel)) ggX4_least_X0_isThere
set_option maxRecDepth 20000 in
theorem ggX4_least_X4_areMarks : GoodIn wsX4_least wsX4_areMarks := goodIn_r _ [19] (by decide +kernel) (by decide +kernel)
set_option maxRecDepth 20000 in
theorem gX4_least_X4_areMarks : GoodIn wsX4_least (va_wsS RX4 146 yX4_areMarks wsX4_areMarks) := goodIn_app (goodIn_of _ (by decide +kernel)) ggX4_least_X4_areMarks
set_option maxRecDepth 20000 in
theorem ggX4_least_X1_knownTo : GoodIn wsX4_least wsX1_knownTo := goodIn_r _ [24, 25, 26, 27, 28, 29, 13, 30, 15, 31, 32, 33, 23, 34, 35, 36, 37, 38, 39, 40, 41, 42, 43, 44, 45, 46, 47, 48, 49, 50, 51, 52, 53, 54, 55, 92, 93, 88, 89, 90, 91, 94] (by decide +kernel) (by decide +kernel)
set_option maxRecDepth 20000 in
theorem gX4_least_X1_knownTo : GoodIn wsX4_least (wsV RX4 149 RX1 yX1_knownTo wsX1_knownTo) := goodIn_app (goodIn_of _ (by decide +kernel)) ggX4_least_X1_knownTo
set_option maxRecDepth 20000 in
theorem ggX4_least_J6_bitCount_0f7a4 : GoodIn wsX4_least wsJ6_bitCount_0f7a4 := goodIn_r _ [59, 60, 61, 62] (by decide +kernel) (by decide +kernel)
set_option maxRecDepth 20000 in
theorem gX4_least_J6_bitCount_0f7a4 : GoodIn wsX4_least (va_wsS RX4 155 yJ6_bitCount_0f7a4 wsJ6_bitCount_0f7a4) := goodIn_app (goodIn_of _ (by decide +kernel)) ggX4_least_J6_bitCount_0f7a4
set_option maxRecDepth 20000 in
theorem ggX4_least_X2_groupSize : GoodIn wsX4_least wsX2_groupSize := goodIn_r _ [66, 67, 68, 48, 69, 70, 71, 72, 73, 74, 75, 76, 77, 50, 78, 79, 80, 51, 36, 37, 13, 38, 39, 40, 41, 42, 43, 44, 15, 94, 88, 89, 90, 91] (by decide +kernel) (by decide +kernel)
set_option maxRecDepth 20000 in
theorem gX4_least_X2_groupSize : GoodIn wsX4_least (wsV RX4 152 RX2 yX2_groupSize wsX2_groupSize) := goodIn_app (goodIn_of _ (by decide +kernel)) ggX4_least_X2_groupSize
theorem dX4_least_0 : decode cX4_least 0 = .ok (.aload_n 0, 1) := by decide +kernel
theorem dX4_least_1 : decode cX4_least 1 = .ok (.getfield 19, 3) := by decide +kernel
theorem dX4_least_4 : decode cX4_least 4 = .ok (.iload_n 1, 1) := by decide +kernel
theorem dX4_least_5 : decode cX4_least 5 = .ok (.invokevirtual 73, 3) := by decide +kernel
theorem dX4_least_8 : decode cX4_least 8 = .ok (.ifCond .eq 10, 3) := by decide +kernel
theorem dX4_least_11 : decode cX4_least 11 = .ok (.iload_n 2, 1) := by decide +kernel
theorem dX4_least_12 : decode cX4_least 12 = .ok (.invokestatic 146, 3) := by decide +kernel
theorem dX4_least_15 : decode cX4_least 15 = .ok (.ifCond .ne 5, 3) := by decide +kernel
theorem dX4_least_18 : decode cX4_least 18 = .ok (.iconst (-1), 1) := by decide +kernel
theorem dX4_least_19 : decode cX4_least 19 = .ok (.ireturn, 1) := by decide +kernel
theorem dX4_least_20 : decode cX4_least 20 = .ok (.aload_n 0, 1) := by decide +kernel
theorem dX4_least_21 : decode cX4_least 21 = .ok (.getfield 28, 3) := by decide +kernel
theorem dX4_least_24 : decode cX4_least 24 = .ok (.iload_n 1, 1) := by decide +kernel
theorem dX4_least_25 : decode cX4_least 25 = .ok (.invokevirtual 149, 3) := by decide +kernel
theorem dX4_least_28 : decode cX4_least 28 = .ok (.istore_n 3, 1) := by decide +kernel
theorem dX4_least_29 : decode cX4_least 29 = .ok (.iload_n 3, 1) := by decide +kernel
theorem dX4_least_30 : decode cX4_least 30 = .ok (.invokestatic 155, 3) := by decide +kernel
theorem dX4_least_33 : decode cX4_least 33 = .ok (.istore 4, 2) := by decide +kernel
theorem dX4_least_35 : decode cX4_least 35 = .ok (.iconst 0, 1) := by decide +kernel
theorem dX4_least_36 : decode cX4_least 36 = .ok (.istore 5, 2) := by decide +kernel
theorem dX4_least_38 : decode cX4_least 38 = .ok (.iload 5, 2) := by decide +kernel
theorem dX4_least_40 : decode cX4_least 40 = .ok (.bipush 24, 2) := by decide +kernel
theorem dX4_least_42 : decode cX4_least 42 = .ok (.if_icmp .ge 38, 3) := by decide +kernel
theorem dX4_least_45 : decode cX4_least 45 = .ok (.aload_n 0, 1) := by decide +kernel
theorem dX4_least_46 : decode cX4_least 46 = .ok (.getfield 10, 3) := by decide +kernel
theorem dX4_least_49 : decode cX4_least 49 = .ok (.iload_n 3, 1) := by decide +kernel
theorem dX4_least_50 : decode cX4_least 50 = .ok (.iload 5, 2) := by decide +kernel
theorem dX4_least_52 : decode cX4_least 52 = .ok (.iload_n 2, 1) := by decide +kernel
theorem dX4_least_53 : decode cX4_least 53 = .ok (.invokevirtual 152, 3) := by decide +kernel
theorem dX4_least_56 : decode cX4_least 56 = .ok (.istore 6, 2) := by decide +kernel
theorem dX4_least_58 : decode cX4_least 58 = .ok (.iload 6, 2) := by decide +kernel
theorem dX4_least_60 : decode cX4_least 60 = .ok (.ifCond .eq 14, 3) := by decide +kernel
theorem dX4_least_63 : decode cX4_least 63 = .ok (.iload 6, 2) := by decide +kernel
theorem dX4_least_65 : decode cX4_least 65 = .ok (.iload 4, 2) := by decide +kernel
theorem dX4_least_67 : decode cX4_least 67 = .ok (.if_icmp .ge 7, 3) := by decide +kernel
theorem dX4_least_70 : decode cX4_least 70 = .ok (.iload 6, 2) := by decide +kernel
theorem dX4_least_72 : decode cX4_least 72 = .ok (.istore 4, 2) := by decide +kernel
theorem dX4_least_74 : decode cX4_least 74 = .ok (.iinc 5 1, 3) := by decide +kernel
theorem dX4_least_77 : decode cX4_least 77 = .ok (.goto (-39), 3) := by decide +kernel
theorem dX4_least_80 : decode cX4_least 80 = .ok (.iload 4, 2) := by decide +kernel
theorem dX4_least_82 : decode cX4_least 82 = .ok (.ireturn, 1) := by decide +kernel
set_option maxRecDepth 20000 in
theorem ggX4_count_X0_isThere : GoodIn wsX4_count wsX0_isThere := goodIn_r _ [8, 9, 10, 11, 12, 13, 14, 15, 93, 94, 95, 96, 97] (by decide +kernel) (by decide +kernel)
set_option maxRecDepth 20000 in
theorem gX4_count_X0_isThere : GoodIn wsX4_count (wsV RX4 73 RX0 yX0_isThere wsX0_isThere) := goodIn_app (goodIn_of _ (by decide +kernel)) ggX4_count_X0_isThere
set_option maxRecDepth 20000 in
theorem ggX4_count_X2_isMark : GoodIn wsX4_count wsX2_isMark := goodIn_r _ [19] (by decide +kernel) (by decide +kernel)
set_option maxRecDepth 20000 in
theorem gX4_count_X2_isMark : GoodIn wsX4_count (va_wsS RX4 160 yX2_isMark wsX2_isMark) := goodIn_app (goodIn_of _ (by decide +kernel)) ggX4_count_X2_isMark
set_option maxRecDepth 20000 in
theorem ggX4_count_X2_isMarkNumber : GoodIn wsX4_count wsX2_isMarkNumber := goodIn_r _ [22] (by decide +kernel) (by decide +kernel)
set_option maxRecDepth 20000 in
theorem gX4_count_X2_isMarkNumber : GoodIn wsX4_count (va_wsS RX4 163 yX2_isMarkNumber wsX2_isMarkNumber) := goodIn_app (goodIn_of _ (by decide +kernel)) ggX4_count_X2_isMarkNumber
set_option maxRecDepth 20000 in
theorem ggX4_count_X1_knownTo : GoodIn wsX4_count wsX1_knownTo := goodIn_r _ [27, 28, 29, 30, 31, 32, 13, 33, 15, 34, 35, 36, 26, 37, 38, 39, 40, 41, 42, 43, 44, 45, 46, 47, 48, 49, 50, 18, 51, 52, 53, 54, 55, 56, 57, 98, 99, 94, 95, 96, 97, 100] (by decide +kernel) (by decide +kernel)
set_option maxRecDepth 20000 in
theorem gX4_count_X1_knownTo : GoodIn wsX4_count (wsV RX4 149 RX1 yX1_knownTo wsX1_knownTo) := goodIn_app (goodIn_of _ (by decide +kernel)) ggX4_count_X1_knownTo
set_option maxRecDepth 20000 in
theorem ggX4_count_X2_countHaving : GoodIn wsX4_count wsX2_countHaving := goodIn_r _ [61, 62, 63, 18, 64, 65, 66, 67, 68, 52, 69, 17, 19, 53, 39, 40, 13, 41, 42, 43, 44, 45, 46, 47, 15, 100, 94, 95, 96, 97] (by decide +kernel) (by decide +kernel)
set_option maxRecDepth 20000 in
theorem gX4_count_X2_countHaving : GoodIn wsX4_count (wsV RX4 166 RX2 yX2_countHaving wsX2_countHaving) := goodIn_app (goodIn_of _ (by decide +kernel)) ggX4_count_X2_countHaving
set_option maxRecDepth 20000 in
theorem ggX4_count_J6_bitCount_0f7a4 : GoodIn wsX4_count wsJ6_bitCount_0f7a4 := goodIn_r _ [73, 74, 75, 76] (by decide +kernel) (by decide +kernel)
set_option maxRecDepth 20000 in
theorem gX4_count_J6_bitCount_0f7a4 : GoodIn wsX4_count (va_wsS RX4 155 yJ6_bitCount_0f7a4 wsJ6_bitCount_0f7a4) := goodIn_app (goodIn_of _ (by decide +kernel)) ggX4_count_J6_bitCount_0f7a4
set_option maxRecDepth 20000 in
theorem ggX4_count_X4_isTooSmall : GoodIn wsX4_count wsX4_isTooSmall := goodIn_r _ [81, 1, 82, 83, 84, 7, 85, 9, 86, 39, 40, 13, 41, 42, 43, 44, 45, 46, 47, 15, 87, 88, 89, 90, 91, 92, 93, 94, 95, 96, 97] (by decide +kernel) (by decide +kernel)
set_option maxRecDepth 20000 in
theorem gX4_count_X4_isTooSmall : GoodIn wsX4_count (wsV RX4 169 RX4 yX4_isTooSmall wsX4_isTooSmall) := goodIn_app (goodIn_of _ (by decide +kernel)) ggX4_count_X4_isTooSmall
theorem dX4_count_0 : decode cX4_count 0 = .ok (.aload_n 0, 1) := by decide +kernel
theorem dX4_count_1 : decode cX4_count 1 = .ok (.getfield 19, 3) := by decide +kernel
theorem dX4_count_4 : decode cX4_count 4 = .ok (.iload_n 1, 1) := by decide +kernel
theorem dX4_count_5 : decode cX4_count 5 = .ok (.invokevirtual 73, 3) := by decide +kernel
theorem dX4_count_8 : decode cX4_count 8 = .ok (.ifCond .eq 17, 3) := by decide +kernel
theorem dX4_count_11 : decode cX4_count 11 = .ok (.iload_n 2, 1) := by decide +kernel
theorem dX4_count_12 : decode cX4_count 12 = .ok (.invokestatic 160, 3) := by decide +kernel
theorem dX4_count_15 : decode cX4_count 15 = .ok (.ifCond .eq 10, 3) := by decide +kernel
theorem dX4_count_18 : decode cX4_count 18 = .ok (.iload_n 3, 1) := by decide +kernel
theorem dX4_count_19 : decode cX4_count 19 = .ok (.invokestatic 163, 3) := by decide +kernel
theorem dX4_count_22 : decode cX4_count 22 = .ok (.ifCond .ne 5, 3) := by decide +kernel
theorem dX4_count_25 : decode cX4_count 25 = .ok (.iconst (-1), 1) := by decide +kernel
theorem dX4_count_26 : decode cX4_count 26 = .ok (.ireturn, 1) := by decide +kernel
theorem dX4_count_27 : decode cX4_count 27 = .ok (.aload_n 0, 1) := by decide +kernel
theorem dX4_count_28 : decode cX4_count 28 = .ok (.getfield 28, 3) := by decide +kernel
theorem dX4_count_31 : decode cX4_count 31 = .ok (.iload_n 1, 1) := by decide +kernel
theorem dX4_count_32 : decode cX4_count 32 = .ok (.invokevirtual 149, 3) := by decide +kernel
theorem dX4_count_35 : decode cX4_count 35 = .ok (.istore 4, 2) := by decide +kernel
theorem dX4_count_37 : decode cX4_count 37 = .ok (.aload_n 0, 1) := by decide +kernel
theorem dX4_count_38 : decode cX4_count 38 = .ok (.getfield 10, 3) := by decide +kernel
theorem dX4_count_41 : decode cX4_count 41 = .ok (.iload 4, 2) := by decide +kernel
theorem dX4_count_43 : decode cX4_count 43 = .ok (.iload_n 2, 1) := by decide +kernel
theorem dX4_count_44 : decode cX4_count 44 = .ok (.iload_n 3, 1) := by decide +kernel
theorem dX4_count_45 : decode cX4_count 45 = .ok (.invokevirtual 166, 3) := by decide +kernel
theorem dX4_count_48 : decode cX4_count 48 = .ok (.istore 5, 2) := by decide +kernel
theorem dX4_count_50 : decode cX4_count 50 = .ok (.iload 4, 2) := by decide +kernel
theorem dX4_count_52 : decode cX4_count 52 = .ok (.invokestatic 155, 3) := by decide +kernel
theorem dX4_count_55 : decode cX4_count 55 = .ok (.iload 5, 2) := by decide +kernel
theorem dX4_count_57 : decode cX4_count 57 = .ok (.isub, 1) := by decide +kernel
theorem dX4_count_58 : decode cX4_count 58 = .ok (.istore 6, 2) := by decide +kernel
theorem dX4_count_60 : decode cX4_count 60 = .ok (.aload_n 0, 1) := by decide +kernel
theorem dX4_count_61 : decode cX4_count 61 = .ok (.iload_n 1, 1) := by decide +kernel
theorem dX4_count_62 : decode cX4_count 62 = .ok (.iload 5, 2) := by decide +kernel
theorem dX4_count_64 : decode cX4_count 64 = .ok (.invokevirtual 169, 3) := by decide +kernel
theorem dX4_count_67 : decode cX4_count 67 = .ok (.ifCond .ne 13, 3) := by decide +kernel
theorem dX4_count_70 : decode cX4_count 70 = .ok (.aload_n 0, 1) := by decide +kernel
theorem dX4_count_71 : decode cX4_count 71 = .ok (.iload_n 1, 1) := by decide +kernel
theorem dX4_count_72 : decode cX4_count 72 = .ok (.iload 6, 2) := by decide +kernel
theorem dX4_count_74 : decode cX4_count 74 = .ok (.invokevirtual 169, 3) := by decide +kernel
theorem dX4_count_77 : decode cX4_count 77 = .ok (.ifCond .eq 6, 3) := by decide +kernel
theorem dX4_count_80 : decode cX4_count 80 = .ok (.bipush (-2), 2) := by decide +kernel
theorem dX4_count_82 : decode cX4_count 82 = .ok (.ireturn, 1) := by decide +kernel
theorem dX4_count_83 : decode cX4_count 83 = .ok (.iload 5, 2) := by decide +kernel
theorem dX4_count_85 : decode cX4_count 85 = .ok (.ireturn, 1) := by decide +kernel
set_option maxRecDepth 20000 in
theorem ggX4_record_X3_at : GoodIn wsX4_record wsX3_at := goodIn_r _ [6, 7, 8, 9, 10, 11, 5, 12, 13, 20, 21, 22, 23] (by decide +kernel) (by decide +kernel)
set_option maxRecDepth 20000 in
theorem gX4_record_X3_at : GoodIn wsX4_record (wsV RX4 172 RX3 yX3_at wsX3_at) := goodIn_app (goodIn_of _ (by decide +kernel)) ggX4_record_X3_at
theorem dX4_record_0 : decode cX4_record 0 = .ok (.aload_n 0, 1) := by decide +kernel
theorem dX4_record_1 : decode cX4_record 1 = .ok (.getfield 41, 3) := by decide +kernel
theorem dX4_record_4 : decode cX4_record 4 = .ok (.iload_n 1, 1) := by decide +kernel
theorem dX4_record_5 : decode cX4_record 5 = .ok (.iload_n 2, 1) := by decide +kernel
theorem dX4_record_6 : decode cX4_record 6 = .ok (.invokevirtual 172, 3) := by decide +kernel
theorem dX4_record_9 : decode cX4_record 9 = .ok (.ireturn, 1) := by decide +kernel
set_option maxRecDepth 20000 in
theorem ggX4_given_X1_cell : GoodIn wsX4_given wsX1_cell := goodIn_r _ [6, 7, 8, 9, 10, 11, 12, 13, 14, 15, 16, 17, 18, 19, 26, 27, 28, 29, 30, 31] (by decide +kernel) (by decide +kernel)
set_option maxRecDepth 20000 in
theorem gX4_given_X1_cell : GoodIn wsX4_given (wsV RX4 175 RX1 yX1_cell wsX1_cell) := goodIn_app (goodIn_of _ (by decide +kernel)) ggX4_given_X1_cell
theorem dX4_given_0 : decode cX4_given 0 = .ok (.aload_n 0, 1) := by decide +kernel
theorem dX4_given_1 : decode cX4_given 1 = .ok (.getfield 28, 3) := by decide +kernel
theorem dX4_given_4 : decode cX4_given 4 = .ok (.iload_n 1, 1) := by decide +kernel
theorem dX4_given_5 : decode cX4_given 5 = .ok (.iload_n 2, 1) := by decide +kernel
theorem dX4_given_6 : decode cX4_given 6 = .ok (.invokevirtual 175, 3) := by decide +kernel
theorem dX4_given_9 : decode cX4_given 9 = .ok (.ireturn, 1) := by decide +kernel
set_option maxRecDepth 20000 in
theorem ggX4_look_X2_isThere : GoodIn wsX4_look wsX2_isThere := goodIn_r _ [7, 8, 9, 10, 11, 12, 13, 14, 69, 70, 71, 72, 73] (by decide +kernel) (by decide +kernel)
set_option maxRecDepth 20000 in
theorem gX4_look_X2_isThere : GoodIn wsX4_look (wsV RX4 76 RX2 yX2_isThere wsX2_isThere) := goodIn_app (goodIn_of _ (by decide +kernel)) ggX4_look_X2_isThere
set_option maxRecDepth 20000 in
theorem ggX4_look_X2_headOf : GoodIn wsX4_look wsX2_headOf := goodIn_r _ [18, 8, 19, 20, 21, 12, 22, 23, 24, 25, 26, 27, 28, 14, 69, 70, 71, 72, 73] (by decide +kernel) (by decide +kernel)
set_option maxRecDepth 20000 in
theorem gX4_look_X2_headOf : GoodIn wsX4_look (wsV RX4 178 RX2 yX2_headOf wsX2_headOf) := goodIn_app (goodIn_of _ (by decide +kernel)) ggX4_look_X2_headOf
set_option maxRecDepth 20000 in
theorem ggX4_look_X2_holderOf : GoodIn wsX4_look wsX2_holderOf := goodIn_r _ [32, 8, 19, 20, 21, 12, 22, 23, 24, 25, 26, 27, 28, 14, 69, 70, 71, 72, 73] (by decide +kernel) (by decide +kernel)
set_option maxRecDepth 20000 in
theorem gX4_look_X2_holderOf : GoodIn wsX4_look (wsV RX4 181 RX2 yX2_holderOf wsX2_holderOf) := goodIn_app (goodIn_of _ (by decide +kernel)) ggX4_look_X2_holderOf
set_option maxRecDepth 20000 in
theorem ggX4_look_X2_isStruckOut : GoodIn wsX4_look wsX2_isStruckOut := goodIn_r _ [36, 8, 19, 20, 21, 12, 22, 23, 24, 25, 26, 27, 28, 14, 69, 70, 71, 72, 73] (by decide +kernel) (by decide +kernel)
set_option maxRecDepth 20000 in
theorem gX4_look_X2_isStruckOut : GoodIn wsX4_look (wsV RX4 77 RX2 yX2_isStruckOut wsX2_isStruckOut) := goodIn_app (goodIn_of _ (by decide +kernel)) ggX4_look_X2_isStruckOut
set_option maxRecDepth 20000 in
theorem ggX4_look_X4_oneIf : GoodIn wsX4_look wsX4_oneIf := goodIn_r _ [40] (by decide +kernel) (by decide +kernel)
set_option maxRecDepth 20000 in
theorem gX4_look_X4_oneIf : GoodIn wsX4_look (va_wsS RX4 108 yX4_oneIf wsX4_oneIf) := goodIn_app (goodIn_of _ (by decide +kernel)) ggX4_look_X4_oneIf
set_option maxRecDepth 20000 in
theorem ggX4_look_X1_countOwnedBy : GoodIn wsX4_look wsX1_countOwnedBy := goodIn_r _ [45, 46, 47, 48, 44, 49, 50, 51, 52, 53, 12, 54, 14, 55, 20, 21, 22, 23, 24, 25, 26, 27, 28, 74, 75, 70, 71, 72, 73] (by decide +kernel) (by decide +kernel)
set_option maxRecDepth 20000 in
theorem gX4_look_X1_countOwnedBy : GoodIn wsX4_look (wsV RX4 184 RX1 yX1_countOwnedBy wsX1_countOwnedBy) := goodIn_app (goodIn_of _ (by decide +kernel)) ggX4_look_X1_countOwnedBy
set_option maxRecDepth 20000 in
theorem ggX4_look_X2_markOf : GoodIn wsX4_look wsX2_markOf := goodIn_r _ [59, 8, 60, 61, 6, 62, 19, 20, 21, 12, 22, 23, 24, 25, 26, 27, 28, 14, 69, 70, 71, 72, 73] (by decide +kernel) (by decide +kernel)
set_option maxRecDepth 20000 in
theorem gX4_look_X2_markOf : GoodIn wsX4_look (wsV RX4 187 RX2 yX2_markOf wsX2_markOf) := goodIn_app (goodIn_of _ (by decide +kernel)) ggX4_look_X2_markOf
theorem dX4_look_0 : decode cX4_look 0 = .ok (.aload_n 0, 1) := by decide +kernel
theorem dX4_look_1 : decode cX4_look 1 = .ok (.getfield 10, 3) := by decide +kernel
theorem dX4_look_4 : decode cX4_look 4 = .ok (.iload_n 1, 1) := by decide +kernel
theorem dX4_look_5 : decode cX4_look 5 = .ok (.invokevirtual 76, 3) := by decide +kernel
theorem dX4_look_8 : decode cX4_look 8 = .ok (.ifCond .ne 5, 3) := by decide +kernel
theorem dX4_look_11 : decode cX4_look 11 = .ok (.iconst (-1), 1) := by decide +kernel
theorem dX4_look_12 : decode cX4_look 12 = .ok (.ireturn, 1) := by decide +kernel
theorem dX4_look_13 : decode cX4_look 13 = .ok (.iload_n 2, 1) := by decide +kernel
theorem dX4_look_14 : decode cX4_look 14 = .ok (.tableswitch 69 0 3 #[30, 39, 48, 60], 30) := by decide +kernel
theorem dX4_look_44 : decode cX4_look 44 = .ok (.aload_n 0, 1) := by decide +kernel
theorem dX4_look_45 : decode cX4_look 45 = .ok (.getfield 10, 3) := by decide +kernel
theorem dX4_look_48 : decode cX4_look 48 = .ok (.iload_n 1, 1) := by decide +kernel
theorem dX4_look_49 : decode cX4_look 49 = .ok (.invokevirtual 178, 3) := by decide +kernel
theorem dX4_look_52 : decode cX4_look 52 = .ok (.ireturn, 1) := by decide +kernel
theorem dX4_look_53 : decode cX4_look 53 = .ok (.aload_n 0, 1) := by decide +kernel
theorem dX4_look_54 : decode cX4_look 54 = .ok (.getfield 10, 3) := by decide +kernel
theorem dX4_look_57 : decode cX4_look 57 = .ok (.iload_n 1, 1) := by decide +kernel
theorem dX4_look_58 : decode cX4_look 58 = .ok (.invokevirtual 181, 3) := by decide +kernel
theorem dX4_look_61 : decode cX4_look 61 = .ok (.ireturn, 1) := by decide +kernel
theorem dX4_look_62 : decode cX4_look 62 = .ok (.aload_n 0, 1) := by decide +kernel
theorem dX4_look_63 : decode cX4_look 63 = .ok (.getfield 10, 3) := by decide +kernel
theorem dX4_look_66 : decode cX4_look 66 = .ok (.iload_n 1, 1) := by decide +kernel
theorem dX4_look_67 : decode cX4_look 67 = .ok (.invokevirtual 77, 3) := by decide +kernel
theorem dX4_look_70 : decode cX4_look 70 = .ok (.invokestatic 108, 3) := by decide +kernel
theorem dX4_look_73 : decode cX4_look 73 = .ok (.ireturn, 1) := by decide +kernel
theorem dX4_look_74 : decode cX4_look 74 = .ok (.aload_n 0, 1) := by decide +kernel
theorem dX4_look_75 : decode cX4_look 75 = .ok (.getfield 28, 3) := by decide +kernel
theorem dX4_look_78 : decode cX4_look 78 = .ok (.iload_n 1, 1) := by decide +kernel
theorem dX4_look_79 : decode cX4_look 79 = .ok (.invokevirtual 184, 3) := by decide +kernel
theorem dX4_look_82 : decode cX4_look 82 = .ok (.ireturn, 1) := by decide +kernel
theorem dX4_look_83 : decode cX4_look 83 = .ok (.aload_n 0, 1) := by decide +kernel
theorem dX4_look_84 : decode cX4_look 84 = .ok (.getfield 10, 3) := by decide +kernel
theorem dX4_look_87 : decode cX4_look 87 = .ok (.iload_n 1, 1) := by decide +kernel
theorem dX4_look_88 : decode cX4_look 88 = .ok (.iload_n 2, 1) := by decide +kernel
theorem dX4_look_89 : decode cX4_look 89 = .ok (.iconst 4, 1) := by decide +kernel
theorem dX4_look_90 : decode cX4_look 90 = .ok (.isub, 1) := by decide +kernel
theorem dX4_look_91 : decode cX4_look 91 = .ok (.invokevirtual 187, 3) := by decide +kernel
theorem dX4_look_94 : decode cX4_look 94 = .ok (.ireturn, 1) := by decide +kernel
set_option maxRecDepth 20000 in
theorem ggX4_tell_X2_size : GoodIn wsX4_tell wsX2_size := goodIn_r _ [11, 12, 13, 14, 15, 16, 17, 18, 104, 105, 106, 107, 108] (by decide +kernel) (by decide +kernel)
set_option maxRecDepth 20000 in
theorem gX4_tell_X2_size : GoodIn wsX4_tell (wsV RX4 190 RX2 yX2_size wsX2_size) := goodIn_app (goodIn_of _ (by decide +kernel)) ggX4_tell_X2_size
set_option maxRecDepth 20000 in
theorem ggX4_tell_X0_size : GoodIn wsX4_tell wsX0_size := goodIn_r _ [23, 24, 25, 14, 15, 16, 17, 18, 109, 105, 106, 107, 108] (by decide +kernel) (by decide +kernel)
set_option maxRecDepth 20000 in
theorem gX4_tell_X0_size : GoodIn wsX4_tell (wsV RX4 193 RX0 yX0_size wsX0_size) := goodIn_app (goodIn_of _ (by decide +kernel)) ggX4_tell_X0_size
set_option maxRecDepth 20000 in
theorem ggX4_tell_X1_size : GoodIn wsX4_tell wsX1_size := goodIn_r _ [30, 31, 32, 14, 15, 16, 17, 18, 110, 111, 105, 106, 107, 108] (by decide +kernel) (by decide +kernel)
set_option maxRecDepth 20000 in
theorem gX4_tell_X1_size : GoodIn wsX4_tell (wsV RX4 194 RX1 yX1_size wsX1_size) := goodIn_app (goodIn_of _ (by decide +kernel)) ggX4_tell_X1_size
set_option maxRecDepth 20000 in
theorem ggX4_tell_X3_size : GoodIn wsX4_tell wsX3_size := goodIn_r _ [17, 18, 105, 106, 107, 108] (by decide +kernel) (by decide +kernel)
set_option maxRecDepth 20000 in
theorem gX4_tell_X3_size : GoodIn wsX4_tell (wsV RX4 195 RX3 yX3_size wsX3_size) := goodIn_app (goodIn_of _ (by decide +kernel)) ggX4_tell_X3_size
set_option maxRecDepth 20000 in
theorem ggX4_tell_X4_tellOfHouse : GoodIn wsX4_tell wsX4_tellOfHouse := goodIn_r _ [38, 2, 4, 39, 40, 41, 22, 42, 24, 43, 44, 45, 16, 46, 18, 47, 48, 49, 29, 50, 51, 52, 53, 54, 31, 32, 14, 15, 17, 55, 56, 57, 58, 59, 60, 61, 62, 63, 64, 65, 66, 67, 68, 69, 70, 71, 72, 73, 74, 75, 76, 10, 77, 12, 78, 79, 80, 81, 82, 83, 84, 85, 86, 87, 88, 89, 90, 91, 92, 93, 94, 95, 96, 37, 97, 98, 99, 100, 101, 102, 103, 109, 105, 106, 107, 108, 110, 111, 104] (by decide +kernel) (by decide +kernel)
set_option maxRecDepth 20000 in
theorem gX4_tell_X4_tellOfHouse : GoodIn wsX4_tell (wsV RX4 196 RX4 yX4_tellOfHouse wsX4_tellOfHouse) := goodIn_app (goodIn_of _ (by decide +kernel)) ggX4_tell_X4_tellOfHouse
theorem dX4_tell_0 : decode cX4_tell 0 = .ok (.iload_n 1, 1) := by decide +kernel
theorem dX4_tell_1 : decode cX4_tell 1 = .ok (.tableswitch 84 0 5 #[39, 47, 55, 60, 68, 76], 39) := by decide +kernel
theorem dX4_tell_40 : decode cX4_tell 40 = .ok (.aload_n 0, 1) := by decide +kernel
theorem dX4_tell_41 : decode cX4_tell 41 = .ok (.getfield 10, 3) := by decide +kernel
theorem dX4_tell_44 : decode cX4_tell 44 = .ok (.invokevirtual 190, 3) := by decide +kernel
theorem dX4_tell_47 : decode cX4_tell 47 = .ok (.ireturn, 1) := by decide +kernel
theorem dX4_tell_48 : decode cX4_tell 48 = .ok (.aload_n 0, 1) := by decide +kernel
theorem dX4_tell_49 : decode cX4_tell 49 = .ok (.getfield 19, 3) := by decide +kernel
theorem dX4_tell_52 : decode cX4_tell 52 = .ok (.invokevirtual 193, 3) := by decide +kernel
theorem dX4_tell_55 : decode cX4_tell 55 = .ok (.ireturn, 1) := by decide +kernel
theorem dX4_tell_56 : decode cX4_tell 56 = .ok (.aload_n 0, 1) := by decide +kernel
theorem dX4_tell_57 : decode cX4_tell 57 = .ok (.getfield 44, 3) := by decide +kernel
theorem dX4_tell_60 : decode cX4_tell 60 = .ok (.ireturn, 1) := by decide +kernel
theorem dX4_tell_61 : decode cX4_tell 61 = .ok (.aload_n 0, 1) := by decide +kernel
theorem dX4_tell_62 : decode cX4_tell 62 = .ok (.getfield 28, 3) := by decide +kernel
theorem dX4_tell_65 : decode cX4_tell 65 = .ok (.invokevirtual 194, 3) := by decide +kernel
theorem dX4_tell_68 : decode cX4_tell 68 = .ok (.ireturn, 1) := by decide +kernel
theorem dX4_tell_69 : decode cX4_tell 69 = .ok (.aload_n 0, 1) := by decide +kernel
theorem dX4_tell_70 : decode cX4_tell 70 = .ok (.getfield 41, 3) := by decide +kernel
theorem dX4_tell_73 : decode cX4_tell 73 = .ok (.invokevirtual 195, 3) := by decide +kernel
theorem dX4_tell_76 : decode cX4_tell 76 = .ok (.ireturn, 1) := by decide +kernel
theorem dX4_tell_77 : decode cX4_tell 77 = .ok (.aload_n 0, 1) := by decide +kernel
theorem dX4_tell_78 : decode cX4_tell 78 = .ok (.getfield 37, 3) := by decide +kernel
theorem dX4_tell_81 : decode cX4_tell 81 = .ok (.invokevirtual 195, 3) := by decide +kernel
theorem dX4_tell_84 : decode cX4_tell 84 = .ok (.ireturn, 1) := by decide +kernel
theorem dX4_tell_85 : decode cX4_tell 85 = .ok (.aload_n 0, 1) := by decide +kernel
theorem dX4_tell_86 : decode cX4_tell 86 = .ok (.iload_n 1, 1) := by decide +kernel
theorem dX4_tell_87 : decode cX4_tell 87 = .ok (.bipush 10, 2) := by decide +kernel
theorem dX4_tell_89 : decode cX4_tell 89 = .ok (.idiv, 1) := by decide +kernel
theorem dX4_tell_90 : decode cX4_tell 90 = .ok (.iload_n 1, 1) := by decide +kernel
theorem dX4_tell_91 : decode cX4_tell 91 = .ok (.bipush 10, 2) := by decide +kernel
theorem dX4_tell_93 : decode cX4_tell 93 = .ok (.irem, 1) := by decide +kernel
theorem dX4_tell_94 : decode cX4_tell 94 = .ok (.invokevirtual 196, 3) := by decide +kernel
theorem dX4_tell_97 : decode cX4_tell 97 = .ok (.ireturn, 1) := by decide +kernel
set_option maxRecDepth 20000 in
theorem ggX4_tellOfHouse_X0_isThere : GoodIn wsX4_tellOfHouse wsX0_isThere := goodIn_r _ [7, 8, 9, 10, 11, 12, 13, 14, 81, 82, 83, 84, 85] (by decide +kernel) (by decide +kernel)
set_option maxRecDepth 20000 in
theorem gX4_tellOfHouse_X0_isThere : GoodIn wsX4_tellOfHouse (wsV RX4 73 RX0 yX0_isThere wsX0_isThere) := goodIn_app (goodIn_of _ (by decide +kernel)) ggX4_tellOfHouse_X0_isThere
set_option maxRecDepth 20000 in
theorem ggX4_tellOfHouse_X1_countGivenBy : GoodIn wsX4_tellOfHouse wsX1_countGivenBy := goodIn_r _ [19, 20, 21, 22, 18, 23, 24, 25, 26, 27, 12, 28, 14, 29, 30, 31, 32, 33, 34, 35, 36, 37, 38, 86, 87, 82, 83, 84, 85] (by decide +kernel) (by decide +kernel)
set_option maxRecDepth 20000 in
theorem gX4_tellOfHouse_X1_countGivenBy : GoodIn wsX4_tellOfHouse (wsV RX4 199 RX1 yX1_countGivenBy wsX1_countGivenBy) := goodIn_app (goodIn_of _ (by decide +kernel)) ggX4_tellOfHouse_X1_countGivenBy
set_option maxRecDepth 20000 in
theorem ggX4_tellOfHouse_X1_knownTo : GoodIn wsX4_tellOfHouse wsX1_knownTo := goodIn_r _ [42, 24, 43, 25, 26, 27, 12, 28, 14, 44, 45, 46, 18, 47, 29, 30, 31, 32, 33, 34, 35, 36, 37, 38, 48, 49, 50, 51, 52, 53, 54, 55, 56, 57, 58, 86, 87, 82, 83, 84, 85, 88] (by decide +kernel) (by decide +kernel)
set_option maxRecDepth 20000 in
theorem gX4_tellOfHouse_X1_knownTo : GoodIn wsX4_tellOfHouse (wsV RX4 149 RX1 yX1_knownTo wsX1_knownTo) := goodIn_app (goodIn_of _ (by decide +kernel)) ggX4_tellOfHouse_X1_knownTo
set_option maxRecDepth 20000 in
theorem ggX4_tellOfHouse_J6_bitCount_0f7a4 : GoodIn wsX4_tellOfHouse wsJ6_bitCount_0f7a4 := goodIn_r _ [62, 63, 64, 65] (by decide +kernel) (by decide +kernel)
set_option maxRecDepth 20000 in
theorem gX4_tellOfHouse_J6_bitCount_0f7a4 : GoodIn wsX4_tellOfHouse (va_wsS RX4 155 yJ6_bitCount_0f7a4 wsJ6_bitCount_0f7a4) := goodIn_app (goodIn_of _ (by decide +kernel)) ggX4_tellOfHouse_J6_bitCount_0f7a4
set_option maxRecDepth 20000 in
theorem ggX4_tellOfHouse_X0_isLost : GoodIn wsX4_tellOfHouse wsX0_isLost := goodIn_r _ [69, 8, 70, 30, 31, 12, 32, 33, 34, 35, 36, 37, 38, 14, 81, 82, 83, 84, 85] (by decide +kernel) (by decide +kernel)
set_option maxRecDepth 20000 in
theorem gX4_tellOfHouse_X0_isLost : GoodIn wsX4_tellOfHouse (wsV RX4 133 RX0 yX0_isLost wsX0_isLost) := goodIn_app (goodIn_of _ (by decide +kernel)) ggX4_tellOfHouse_X0_isLost
set_option maxRecDepth 20000 in
theorem ggX4_tellOfHouse_X4_oneIf : GoodIn wsX4_tellOfHouse wsX4_oneIf := goodIn_r _ [74] (by decide +kernel) (by decide +kernel)
set_option maxRecDepth 20000 in
theorem gX4_tellOfHouse_X4_oneIf : GoodIn wsX4_tellOfHouse (va_wsS RX4 108 yX4_oneIf wsX4_oneIf) := goodIn_app (goodIn_of _ (by decide +kernel)) ggX4_tellOfHouse_X4_oneIf
theorem dX4_tellOfHouse_0 : decode cX4_tellOfHouse 0 = .ok (.aload_n 0, 1) := by decide +kernel
theorem dX4_tellOfHouse_1 : decode cX4_tellOfHouse 1 = .ok (.getfield 19, 3) := by decide +kernel
theorem dX4_tellOfHouse_4 : decode cX4_tellOfHouse 4 = .ok (.iload_n 2, 1) := by decide +kernel
theorem dX4_tellOfHouse_5 : decode cX4_tellOfHouse 5 = .ok (.invokevirtual 73, 3) := by decide +kernel
theorem dX4_tellOfHouse_8 : decode cX4_tellOfHouse 8 = .ok (.ifCond .ne 5, 3) := by decide +kernel
theorem dX4_tellOfHouse_11 : decode cX4_tellOfHouse 11 = .ok (.iconst (-1), 1) := by decide +kernel
theorem dX4_tellOfHouse_12 : decode cX4_tellOfHouse 12 = .ok (.ireturn, 1) := by decide +kernel
theorem dX4_tellOfHouse_13 : decode cX4_tellOfHouse 13 = .ok (.iload_n 1, 1) := by decide +kernel
theorem dX4_tellOfHouse_14 : decode cX4_tellOfHouse 14 = .ok (.tableswitch 59 1 3 #[26, 35, 47], 26) := by decide +kernel
theorem dX4_tellOfHouse_40 : decode cX4_tellOfHouse 40 = .ok (.aload_n 0, 1) := by decide +kernel
theorem dX4_tellOfHouse_41 : decode cX4_tellOfHouse 41 = .ok (.getfield 28, 3) := by decide +kernel
theorem dX4_tellOfHouse_44 : decode cX4_tellOfHouse 44 = .ok (.iload_n 2, 1) := by decide +kernel
theorem dX4_tellOfHouse_45 : decode cX4_tellOfHouse 45 = .ok (.invokevirtual 199, 3) := by decide +kernel
theorem dX4_tellOfHouse_48 : decode cX4_tellOfHouse 48 = .ok (.ireturn, 1) := by decide +kernel
theorem dX4_tellOfHouse_49 : decode cX4_tellOfHouse 49 = .ok (.aload_n 0, 1) := by decide +kernel
theorem dX4_tellOfHouse_50 : decode cX4_tellOfHouse 50 = .ok (.getfield 28, 3) := by decide +kernel
theorem dX4_tellOfHouse_53 : decode cX4_tellOfHouse 53 = .ok (.iload_n 2, 1) := by decide +kernel
theorem dX4_tellOfHouse_54 : decode cX4_tellOfHouse 54 = .ok (.invokevirtual 149, 3) := by decide +kernel
theorem dX4_tellOfHouse_57 : decode cX4_tellOfHouse 57 = .ok (.invokestatic 155, 3) := by decide +kernel
theorem dX4_tellOfHouse_60 : decode cX4_tellOfHouse 60 = .ok (.ireturn, 1) := by decide +kernel
theorem dX4_tellOfHouse_61 : decode cX4_tellOfHouse 61 = .ok (.aload_n 0, 1) := by decide +kernel
theorem dX4_tellOfHouse_62 : decode cX4_tellOfHouse 62 = .ok (.getfield 19, 3) := by decide +kernel
theorem dX4_tellOfHouse_65 : decode cX4_tellOfHouse 65 = .ok (.iload_n 2, 1) := by decide +kernel
theorem dX4_tellOfHouse_66 : decode cX4_tellOfHouse 66 = .ok (.invokevirtual 133, 3) := by decide +kernel
theorem dX4_tellOfHouse_69 : decode cX4_tellOfHouse 69 = .ok (.invokestatic 108, 3) := by decide +kernel
theorem dX4_tellOfHouse_72 : decode cX4_tellOfHouse 72 = .ok (.ireturn, 1) := by decide +kernel
theorem dX4_tellOfHouse_73 : decode cX4_tellOfHouse 73 = .ok (.iconst (-1), 1) := by decide +kernel
theorem dX4_tellOfHouse_74 : decode cX4_tellOfHouse 74 = .ok (.ireturn, 1) := by decide +kernel
set_option maxRecDepth 20000 in
theorem ggX4_nameIn_X1_countGivenBy : GoodIn wsX4_nameIn wsX1_countGivenBy := goodIn_r _ [9, 10, 11, 12, 8, 13, 14, 15, 16, 17, 18, 19, 20, 21, 22, 23, 24, 25, 26, 27, 28, 29, 30, 98, 99, 100, 101, 102, 103] (by decide +kernel) (by decide +kernel)
set_option maxRecDepth 20000 in
theorem gX4_nameIn_X1_countGivenBy : GoodIn wsX4_nameIn (wsV RX4 199 RX1 yX1_countGivenBy wsX1_countGivenBy) := goodIn_app (goodIn_of _ (by decide +kernel)) ggX4_nameIn_X1_countGivenBy
set_option maxRecDepth 20000 in
theorem ggX4_nameIn_X0_spanNumber : GoodIn wsX4_nameIn wsX0_spanNumber := goodIn_r _ [35, 36, 37, 22, 23, 18, 24, 25, 26, 27, 28, 29, 30, 20, 38, 39, 40, 34, 41, 104, 100, 101, 102, 103] (by decide +kernel) (by decide +kernel)
set_option maxRecDepth 20000 in
theorem gX4_nameIn_X0_spanNumber : GoodIn wsX4_nameIn (wsV RX4 202 RX0 yX0_spanNumber wsX0_spanNumber) := goodIn_app (goodIn_of _ (by decide +kernel)) ggX4_nameIn_X0_spanNumber
set_option maxRecDepth 20000 in
theorem ggX4_nameIn_X2_headOf : GoodIn wsX4_nameIn wsX2_headOf := goodIn_r _ [46, 47, 48, 22, 23, 18, 24, 25, 26, 27, 28, 29, 30, 20, 105, 100, 101, 102, 103] (by decide +kernel) (by decide +kernel)
set_option maxRecDepth 20000 in
theorem gX4_nameIn_X2_headOf : GoodIn wsX4_nameIn (wsV RX4 178 RX2 yX2_headOf wsX2_headOf) := goodIn_app (goodIn_of _ (by decide +kernel)) ggX4_nameIn_X2_headOf
set_option maxRecDepth 20000 in
theorem ggX4_nameIn_X1_firstFor : GoodIn wsX4_nameIn wsX1_firstFor := goodIn_r _ [52, 14, 53, 15, 16, 17, 18, 19, 20, 21, 22, 23, 24, 25, 26, 27, 28, 29, 30, 54, 55, 56, 8, 57, 58, 59, 60, 61, 62, 43, 44, 45, 46, 47, 48, 98, 99, 100, 101, 102, 103, 105] (by decide +kernel) (by decide +kernel)
set_option maxRecDepth 20000 in
theorem gX4_nameIn_X1_firstFor : GoodIn wsX4_nameIn (wsV RX4 205 RX1 yX1_firstFor wsX1_firstFor) := goodIn_app (goodIn_of _ (by decide +kernel)) ggX4_nameIn_X1_firstFor
set_option maxRecDepth 20000 in
theorem ggX4_nameIn_X0_nameNumber : GoodIn wsX4_nameIn wsX0_nameNumber := goodIn_r _ [66, 67, 68, 69, 34, 70, 36, 37, 22, 23, 18, 24, 25, 26, 27, 28, 29, 30, 20, 104, 100, 101, 102, 103] (by decide +kernel) (by decide +kernel)
set_option maxRecDepth 20000 in
theorem gX4_nameIn_X0_nameNumber : GoodIn wsX4_nameIn (wsV RX4 208 RX0 yX0_nameNumber wsX0_nameNumber) := goodIn_app (goodIn_of _ (by decide +kernel)) ggX4_nameIn_X0_nameNumber
set_option maxRecDepth 20000 in
theorem ggX4_nameIn_X1_add : GoodIn wsX4_nameIn wsX1_add := goodIn_r _ [74, 14, 75, 76, 77, 18, 78, 20, 79, 80, 81, 82, 83, 84, 85, 86, 87, 25, 26, 27, 28, 29, 30, 98, 99, 100, 101, 102, 103] (by decide +kernel) (by decide +kernel)
set_option maxRecDepth 20000 in
theorem gX4_nameIn_X1_add : GoodIn wsX4_nameIn (wsV RX4 211 RX1 yX1_add wsX1_add) := goodIn_app (goodIn_of _ (by decide +kernel)) ggX4_nameIn_X1_add
set_option maxRecDepth 20000 in
theorem ggX4_nameIn_X1_nameAt : GoodIn wsX4_nameIn wsX1_nameAt := goodIn_r _ [91, 14, 21, 22, 23, 18, 24, 25, 26, 27, 28, 29, 30, 20, 98, 99, 100, 101, 102, 103] (by decide +kernel) (by decide +kernel)
set_option maxRecDepth 20000 in
theorem gX4_nameIn_X1_nameAt : GoodIn wsX4_nameIn (wsV RX4 91 RX1 yX1_nameAt wsX1_nameAt) := goodIn_app (goodIn_of _ (by decide +kernel)) ggX4_nameIn_X1_nameAt
theorem dX4_nameIn_0 : decode cX4_nameIn 0 = .ok (.aload_n 0, 1) := by decide +kernel
theorem dX4_nameIn_1 : decode cX4_nameIn 1 = .ok (.getfield 28, 3) := by decide +kernel
theorem dX4_nameIn_4 : decode cX4_nameIn 4 = .ok (.iload_n 1, 1) := by decide +kernel
theorem dX4_nameIn_5 : decode cX4_nameIn 5 = .ok (.invokevirtual 199, 3) := by decide +kernel
theorem dX4_nameIn_8 : decode cX4_nameIn 8 = .ok (.iconst 1, 1) := by decide +kernel
theorem dX4_nameIn_9 : decode cX4_nameIn 9 = .ok (.iadd, 1) := by decide +kernel
theorem dX4_nameIn_10 : decode cX4_nameIn 10 = .ok (.istore_n 3, 1) := by decide +kernel
theorem dX4_nameIn_11 : decode cX4_nameIn 11 = .ok (.aload_n 0, 1) := by decide +kernel
theorem dX4_nameIn_12 : decode cX4_nameIn 12 = .ok (.getfield 19, 3) := by decide +kernel
theorem dX4_nameIn_15 : decode cX4_nameIn 15 = .ok (.iload_n 1, 1) := by decide +kernel
theorem dX4_nameIn_16 : decode cX4_nameIn 16 = .ok (.aload_n 0, 1) := by decide +kernel
theorem dX4_nameIn_17 : decode cX4_nameIn 17 = .ok (.getfield 44, 3) := by decide +kernel
theorem dX4_nameIn_20 : decode cX4_nameIn 20 = .ok (.iload_n 3, 1) := by decide +kernel
theorem dX4_nameIn_21 : decode cX4_nameIn 21 = .ok (.invokevirtual 202, 3) := by decide +kernel
theorem dX4_nameIn_24 : decode cX4_nameIn 24 = .ok (.istore 4, 2) := by decide +kernel
theorem dX4_nameIn_26 : decode cX4_nameIn 26 = .ok (.aload_n 0, 1) := by decide +kernel
theorem dX4_nameIn_27 : decode cX4_nameIn 27 = .ok (.getfield 10, 3) := by decide +kernel
theorem dX4_nameIn_30 : decode cX4_nameIn 30 = .ok (.iload_n 2, 1) := by decide +kernel
theorem dX4_nameIn_31 : decode cX4_nameIn 31 = .ok (.invokevirtual 178, 3) := by decide +kernel
theorem dX4_nameIn_34 : decode cX4_nameIn 34 = .ok (.istore 5, 2) := by decide +kernel
theorem dX4_nameIn_36 : decode cX4_nameIn 36 = .ok (.aload_n 0, 1) := by decide +kernel
theorem dX4_nameIn_37 : decode cX4_nameIn 37 = .ok (.getfield 28, 3) := by decide +kernel
theorem dX4_nameIn_40 : decode cX4_nameIn 40 = .ok (.iload_n 1, 1) := by decide +kernel
theorem dX4_nameIn_41 : decode cX4_nameIn 41 = .ok (.iload 4, 2) := by decide +kernel
theorem dX4_nameIn_43 : decode cX4_nameIn 43 = .ok (.iload 5, 2) := by decide +kernel
theorem dX4_nameIn_45 : decode cX4_nameIn 45 = .ok (.invokevirtual 205, 3) := by decide +kernel
theorem dX4_nameIn_48 : decode cX4_nameIn 48 = .ok (.istore 6, 2) := by decide +kernel
theorem dX4_nameIn_50 : decode cX4_nameIn 50 = .ok (.iload 6, 2) := by decide +kernel
theorem dX4_nameIn_52 : decode cX4_nameIn 52 = .ok (.iconst (-1), 1) := by decide +kernel
theorem dX4_nameIn_53 : decode cX4_nameIn 53 = .ok (.if_icmp .ne 30, 3) := by decide +kernel
theorem dX4_nameIn_56 : decode cX4_nameIn 56 = .ok (.aload_n 0, 1) := by decide +kernel
theorem dX4_nameIn_57 : decode cX4_nameIn 57 = .ok (.getfield 28, 3) := by decide +kernel
theorem dX4_nameIn_60 : decode cX4_nameIn 60 = .ok (.iload_n 1, 1) := by decide +kernel
theorem dX4_nameIn_61 : decode cX4_nameIn 61 = .ok (.aload_n 0, 1) := by decide +kernel
theorem dX4_nameIn_62 : decode cX4_nameIn 62 = .ok (.getfield 19, 3) := by decide +kernel
theorem dX4_nameIn_65 : decode cX4_nameIn 65 = .ok (.iload_n 1, 1) := by decide +kernel
theorem dX4_nameIn_66 : decode cX4_nameIn 66 = .ok (.iload_n 3, 1) := by decide +kernel
theorem dX4_nameIn_67 : decode cX4_nameIn 67 = .ok (.invokevirtual 208, 3) := by decide +kernel
theorem dX4_nameIn_70 : decode cX4_nameIn 70 = .ok (.iload 5, 2) := by decide +kernel
theorem dX4_nameIn_72 : decode cX4_nameIn 72 = .ok (.aload_n 0, 1) := by decide +kernel
theorem dX4_nameIn_73 : decode cX4_nameIn 73 = .ok (.getfield 44, 3) := by decide +kernel
theorem dX4_nameIn_76 : decode cX4_nameIn 76 = .ok (.iload 4, 2) := by decide +kernel
theorem dX4_nameIn_78 : decode cX4_nameIn 78 = .ok (.invokevirtual 211, 3) := by decide +kernel
theorem dX4_nameIn_81 : decode cX4_nameIn 81 = .ok (.istore 6, 2) := by decide +kernel
theorem dX4_nameIn_83 : decode cX4_nameIn 83 = .ok (.aload_n 0, 1) := by decide +kernel
theorem dX4_nameIn_84 : decode cX4_nameIn 84 = .ok (.getfield 28, 3) := by decide +kernel
theorem dX4_nameIn_87 : decode cX4_nameIn 87 = .ok (.iload 6, 2) := by decide +kernel
theorem dX4_nameIn_89 : decode cX4_nameIn 89 = .ok (.invokevirtual 91, 3) := by decide +kernel
theorem dX4_nameIn_92 : decode cX4_nameIn 92 = .ok (.ireturn, 1) := by decide +kernel
set_option maxRecDepth 20000 in
theorem ggX4_crossWith_X1_find : GoodIn wsX4_crossWith wsX1_find := goodIn_r _ [9, 10, 11, 12, 13, 14, 15, 16, 17, 18, 19, 20, 21, 22, 23, 24, 25, 26, 27, 28, 29, 8, 30, 126, 127, 128, 129, 130, 131] (by decide +kernel) (by decide +kernel)
set_option maxRecDepth 20000 in
theorem gX4_crossWith_X1_find : GoodIn wsX4_crossWith (wsV RX4 84 RX1 yX1_find wsX1_find) := goodIn_app (goodIn_of _ (by decide +kernel)) ggX4_crossWith_X1_find
set_option maxRecDepth 20000 in
theorem ggX4_crossWith_X0_isLost : GoodIn wsX4_crossWith wsX0_isLost := goodIn_r _ [35, 36, 37, 18, 19, 14, 20, 21, 22, 23, 24, 25, 26, 16, 132, 128, 129, 130, 131] (by decide +kernel) (by decide +kernel)
set_option maxRecDepth 20000 in
theorem gX4_crossWith_X0_isLost : GoodIn wsX4_crossWith (wsV RX4 133 RX0 yX0_isLost wsX0_isLost) := goodIn_app (goodIn_of _ (by decide +kernel)) ggX4_crossWith_X0_isLost
set_option maxRecDepth 20000 in
theorem ggX4_crossWith_X4_isBridged : GoodIn wsX4_crossWith wsX4_isBridged := goodIn_r _ [42, 43, 44, 12, 13, 14, 15, 16, 45, 18, 19, 20, 21, 22, 23, 24, 25, 26, 120, 121, 122, 123, 124, 125, 128, 129, 130, 131] (by decide +kernel) (by decide +kernel)
set_option maxRecDepth 20000 in
theorem gX4_crossWith_X4_isBridged : GoodIn wsX4_crossWith (wsV RX4 105 RX4 yX4_isBridged wsX4_isBridged) := goodIn_app (goodIn_of _ (by decide +kernel)) ggX4_crossWith_X4_isBridged
set_option maxRecDepth 20000 in
theorem ggX4_crossWith_X1_ownerAt : GoodIn wsX4_crossWith wsX1_ownerAt := goodIn_r _ [49, 10, 17, 18, 19, 14, 20, 21, 22, 23, 24, 25, 26, 16, 126, 127, 128, 129, 130, 131] (by decide +kernel) (by decide +kernel)
set_option maxRecDepth 20000 in
theorem gX4_crossWith_X1_ownerAt : GoodIn wsX4_crossWith (wsV RX4 212 RX1 yX1_ownerAt wsX1_ownerAt) := goodIn_app (goodIn_of _ (by decide +kernel)) ggX4_crossWith_X1_ownerAt
set_option maxRecDepth 20000 in
theorem ggX4_crossWith_X0_isSpanned : GoodIn wsX4_crossWith wsX0_isSpanned := goodIn_r _ [53, 36, 37, 18, 19, 14, 20, 21, 22, 23, 24, 25, 26, 16, 132, 128, 129, 130, 131] (by decide +kernel) (by decide +kernel)
set_option maxRecDepth 20000 in
theorem gX4_crossWith_X0_isSpanned : GoodIn wsX4_crossWith (wsV RX4 215 RX0 yX0_isSpanned wsX0_isSpanned) := goodIn_app (goodIn_of _ (by decide +kernel)) ggX4_crossWith_X0_isSpanned
set_option maxRecDepth 20000 in
theorem ggX4_crossWith_X1_spanNumberAt : GoodIn wsX4_crossWith wsX1_spanNumberAt := goodIn_r _ [57, 10, 17, 18, 19, 14, 20, 21, 22, 23, 24, 25, 26, 16, 126, 127, 128, 129, 130, 131] (by decide +kernel) (by decide +kernel)
set_option maxRecDepth 20000 in
theorem gX4_crossWith_X1_spanNumberAt : GoodIn wsX4_crossWith (wsV RX4 218 RX1 yX1_spanNumberAt wsX1_spanNumberAt) := goodIn_app (goodIn_of _ (by decide +kernel)) ggX4_crossWith_X1_spanNumberAt
set_option maxRecDepth 20000 in
theorem ggX4_crossWith_X0_spanNumber : GoodIn wsX4_crossWith wsX0_spanNumber := goodIn_r _ [61, 36, 37, 18, 19, 14, 20, 21, 22, 23, 24, 25, 26, 16, 62, 51, 52, 34, 53, 132, 128, 129, 130, 131] (by decide +kernel) (by decide +kernel)
set_option maxRecDepth 20000 in
theorem gX4_crossWith_X0_spanNumber : GoodIn wsX4_crossWith (wsV RX4 202 RX0 yX0_spanNumber wsX0_spanNumber) := goodIn_app (goodIn_of _ (by decide +kernel)) ggX4_crossWith_X0_spanNumber
set_option maxRecDepth 20000 in
theorem ggX4_crossWith_X2_isStruckOut : GoodIn wsX4_crossWith wsX2_isStruckOut := goodIn_r _ [67, 68, 69, 18, 19, 14, 20, 21, 22, 23, 24, 25, 26, 16, 133, 128, 129, 130, 131] (by decide +kernel) (by decide +kernel)
set_option maxRecDepth 20000 in
theorem gX4_crossWith_X2_isStruckOut : GoodIn wsX4_crossWith (wsV RX4 77 RX2 yX2_isStruckOut wsX2_isStruckOut) := goodIn_app (goodIn_of _ (by decide +kernel)) ggX4_crossWith_X2_isStruckOut
set_option maxRecDepth 20000 in
theorem ggX4_crossWith_X4_nameIn : GoodIn wsX4_crossWith wsX4_nameIn := goodIn_r _ [73, 1, 2, 3, 4, 74, 75, 76, 8, 77, 78, 79, 80, 81, 10, 11, 12, 13, 14, 15, 16, 17, 18, 19, 20, 21, 22, 23, 24, 25, 26, 58, 59, 60, 34, 61, 36, 37, 62, 51, 52, 53, 82, 83, 84, 66, 85, 68, 69, 86, 87, 88, 89, 90, 91, 55, 56, 57, 92, 47, 48, 49, 93, 94, 95, 96, 97, 98, 99, 100, 101, 102, 103, 104, 105, 106, 107, 108, 109, 110, 111, 112, 113, 114, 115, 116, 117, 118, 119, 28, 29, 30, 120, 121, 122, 123, 124, 125, 126, 127, 128, 129, 130, 131, 132, 133] (by decide +kernel) (by decide +kernel)
set_option maxRecDepth 20000 in
theorem gX4_crossWith_X4_nameIn : GoodIn wsX4_crossWith (wsV RX4 80 RX4 yX4_nameIn wsX4_nameIn) := goodIn_app (goodIn_of _ (by decide +kernel)) ggX4_crossWith_X4_nameIn
theorem dX4_crossWith_0 : decode cX4_crossWith 0 = .ok (.aload_n 0, 1) := by decide +kernel
theorem dX4_crossWith_1 : decode cX4_crossWith 1 = .ok (.getfield 28, 3) := by decide +kernel
theorem dX4_crossWith_4 : decode cX4_crossWith 4 = .ok (.iload_n 1, 1) := by decide +kernel
theorem dX4_crossWith_5 : decode cX4_crossWith 5 = .ok (.iload_n 3, 1) := by decide +kernel
theorem dX4_crossWith_6 : decode cX4_crossWith 6 = .ok (.invokevirtual 84, 3) := by decide +kernel
theorem dX4_crossWith_9 : decode cX4_crossWith 9 = .ok (.istore 4, 2) := by decide +kernel
theorem dX4_crossWith_11 : decode cX4_crossWith 11 = .ok (.iload 4, 2) := by decide +kernel
theorem dX4_crossWith_13 : decode cX4_crossWith 13 = .ok (.iconst (-1), 1) := by decide +kernel
theorem dX4_crossWith_14 : decode cX4_crossWith 14 = .ok (.if_icmp .eq 27, 3) := by decide +kernel
theorem dX4_crossWith_17 : decode cX4_crossWith 17 = .ok (.aload_n 0, 1) := by decide +kernel
theorem dX4_crossWith_18 : decode cX4_crossWith 18 = .ok (.getfield 19, 3) := by decide +kernel
theorem dX4_crossWith_21 : decode cX4_crossWith 21 = .ok (.iload_n 1, 1) := by decide +kernel
theorem dX4_crossWith_22 : decode cX4_crossWith 22 = .ok (.invokevirtual 133, 3) := by decide +kernel
theorem dX4_crossWith_25 : decode cX4_crossWith 25 = .ok (.ifCond .ne 16, 3) := by decide +kernel
theorem dX4_crossWith_28 : decode cX4_crossWith 28 = .ok (.aload_n 0, 1) := by decide +kernel
theorem dX4_crossWith_29 : decode cX4_crossWith 29 = .ok (.iload_n 1, 1) := by decide +kernel
theorem dX4_crossWith_30 : decode cX4_crossWith 30 = .ok (.iload_n 2, 1) := by decide +kernel
theorem dX4_crossWith_31 : decode cX4_crossWith 31 = .ok (.aload_n 0, 1) := by decide +kernel
theorem dX4_crossWith_32 : decode cX4_crossWith 32 = .ok (.getfield 44, 3) := by decide +kernel
theorem dX4_crossWith_35 : decode cX4_crossWith 35 = .ok (.invokevirtual 105, 3) := by decide +kernel
theorem dX4_crossWith_38 : decode cX4_crossWith 38 = .ok (.ifCond .ne 5, 3) := by decide +kernel
theorem dX4_crossWith_41 : decode cX4_crossWith 41 = .ok (.iconst (-1), 1) := by decide +kernel
theorem dX4_crossWith_42 : decode cX4_crossWith 42 = .ok (.ireturn, 1) := by decide +kernel
theorem dX4_crossWith_43 : decode cX4_crossWith 43 = .ok (.aload_n 0, 1) := by decide +kernel
theorem dX4_crossWith_44 : decode cX4_crossWith 44 = .ok (.getfield 28, 3) := by decide +kernel
theorem dX4_crossWith_47 : decode cX4_crossWith 47 = .ok (.iload 4, 2) := by decide +kernel
theorem dX4_crossWith_49 : decode cX4_crossWith 49 = .ok (.invokevirtual 212, 3) := by decide +kernel
theorem dX4_crossWith_52 : decode cX4_crossWith 52 = .ok (.istore 5, 2) := by decide +kernel
theorem dX4_crossWith_54 : decode cX4_crossWith 54 = .ok (.aload_n 0, 1) := by decide +kernel
theorem dX4_crossWith_55 : decode cX4_crossWith 55 = .ok (.getfield 19, 3) := by decide +kernel
theorem dX4_crossWith_58 : decode cX4_crossWith 58 = .ok (.iload_n 1, 1) := by decide +kernel
theorem dX4_crossWith_59 : decode cX4_crossWith 59 = .ok (.invokevirtual 215, 3) := by decide +kernel
theorem dX4_crossWith_62 : decode cX4_crossWith 62 = .ok (.ifCond .eq 32, 3) := by decide +kernel
theorem dX4_crossWith_65 : decode cX4_crossWith 65 = .ok (.aload_n 0, 1) := by decide +kernel
theorem dX4_crossWith_66 : decode cX4_crossWith 66 = .ok (.getfield 28, 3) := by decide +kernel
theorem dX4_crossWith_69 : decode cX4_crossWith 69 = .ok (.iload 4, 2) := by decide +kernel
theorem dX4_crossWith_71 : decode cX4_crossWith 71 = .ok (.invokevirtual 218, 3) := by decide +kernel
theorem dX4_crossWith_74 : decode cX4_crossWith 74 = .ok (.aload_n 0, 1) := by decide +kernel
theorem dX4_crossWith_75 : decode cX4_crossWith 75 = .ok (.getfield 19, 3) := by decide +kernel
theorem dX4_crossWith_78 : decode cX4_crossWith 78 = .ok (.iload_n 1, 1) := by decide +kernel
theorem dX4_crossWith_79 : decode cX4_crossWith 79 = .ok (.aload_n 0, 1) := by decide +kernel
theorem dX4_crossWith_80 : decode cX4_crossWith 80 = .ok (.getfield 44, 3) := by decide +kernel
theorem dX4_crossWith_83 : decode cX4_crossWith 83 = .ok (.iconst 0, 1) := by decide +kernel
theorem dX4_crossWith_84 : decode cX4_crossWith 84 = .ok (.invokevirtual 202, 3) := by decide +kernel
theorem dX4_crossWith_87 : decode cX4_crossWith 87 = .ok (.if_icmp .eq 7, 3) := by decide +kernel
theorem dX4_crossWith_90 : decode cX4_crossWith 90 = .ok (.iconst 1, 1) := by decide +kernel
theorem dX4_crossWith_91 : decode cX4_crossWith 91 = .ok (.goto 4, 3) := by decide +kernel
theorem dX4_crossWith_94 : decode cX4_crossWith 94 = .ok (.iconst 0, 1) := by decide +kernel
theorem dX4_crossWith_95 : decode cX4_crossWith 95 = .ok (.istore 6, 2) := by decide +kernel
theorem dX4_crossWith_97 : decode cX4_crossWith 97 = .ok (.iload 6, 2) := by decide +kernel
theorem dX4_crossWith_99 : decode cX4_crossWith 99 = .ok (.ifCond .ne 15, 3) := by decide +kernel
theorem dX4_crossWith_102 : decode cX4_crossWith 102 = .ok (.aload_n 0, 1) := by decide +kernel
theorem dX4_crossWith_103 : decode cX4_crossWith 103 = .ok (.getfield 10, 3) := by decide +kernel
theorem dX4_crossWith_106 : decode cX4_crossWith 106 = .ok (.iload 5, 2) := by decide +kernel
theorem dX4_crossWith_108 : decode cX4_crossWith 108 = .ok (.invokevirtual 77, 3) := by decide +kernel
theorem dX4_crossWith_111 : decode cX4_crossWith 111 = .ok (.ifCond .eq 7, 3) := by decide +kernel
theorem dX4_crossWith_114 : decode cX4_crossWith 114 = .ok (.iconst (-1), 1) := by decide +kernel
theorem dX4_crossWith_115 : decode cX4_crossWith 115 = .ok (.goto 10, 3) := by decide +kernel
theorem dX4_crossWith_118 : decode cX4_crossWith 118 = .ok (.aload_n 0, 1) := by decide +kernel
theorem dX4_crossWith_119 : decode cX4_crossWith 119 = .ok (.iload_n 2, 1) := by decide +kernel
theorem dX4_crossWith_120 : decode cX4_crossWith 120 = .ok (.iload 5, 2) := by decide +kernel
theorem dX4_crossWith_122 : decode cX4_crossWith 122 = .ok (.invokevirtual 80, 3) := by decide +kernel
theorem dX4_crossWith_125 : decode cX4_crossWith 125 = .ok (.ireturn, 1) := by decide +kernel
set_option maxRecDepth 20000 in
theorem ggX4_headBehind_X1_find : GoodIn wsX4_headBehind wsX1_find := goodIn_r _ [7, 8, 9, 10, 11, 12, 13, 14, 15, 16, 17, 18, 19, 20, 21, 22, 23, 24, 25, 26, 27, 6, 28, 50, 51, 52, 53, 54, 55] (by decide +kernel) (by decide +kernel)
set_option maxRecDepth 20000 in
theorem gX4_headBehind_X1_find : GoodIn wsX4_headBehind (wsV RX4 84 RX1 yX1_find wsX1_find) := goodIn_app (goodIn_of _ (by decide +kernel)) ggX4_headBehind_X1_find
set_option maxRecDepth 20000 in
theorem ggX4_headBehind_X1_ownerAt : GoodIn wsX4_headBehind wsX1_ownerAt := goodIn_r _ [32, 8, 15, 16, 17, 12, 18, 19, 20, 21, 22, 23, 24, 14, 50, 51, 52, 53, 54, 55] (by decide +kernel) (by decide +kernel)
set_option maxRecDepth 20000 in
theorem gX4_headBehind_X1_ownerAt : GoodIn wsX4_headBehind (wsV RX4 212 RX1 yX1_ownerAt wsX1_ownerAt) := goodIn_app (goodIn_of _ (by decide +kernel)) ggX4_headBehind_X1_ownerAt
set_option maxRecDepth 20000 in
theorem ggX4_headBehind_X2_isStruckOut : GoodIn wsX4_headBehind wsX2_isStruckOut := goodIn_r _ [37, 38, 39, 16, 17, 12, 18, 19, 20, 21, 22, 23, 24, 14, 56, 52, 53, 54, 55] (by decide +kernel) (by decide +kernel)
set_option maxRecDepth 20000 in
theorem gX4_headBehind_X2_isStruckOut : GoodIn wsX4_headBehind (wsV RX4 77 RX2 yX2_isStruckOut wsX2_isStruckOut) := goodIn_app (goodIn_of _ (by decide +kernel)) ggX4_headBehind_X2_isStruckOut
set_option maxRecDepth 20000 in
theorem ggX4_headBehind_X2_headOf : GoodIn wsX4_headBehind wsX2_headOf := goodIn_r _ [43, 38, 39, 16, 17, 12, 18, 19, 20, 21, 22, 23, 24, 14, 56, 52, 53, 54, 55] (by decide +kernel) (by decide +kernel)
set_option maxRecDepth 20000 in
theorem gX4_headBehind_X2_headOf : GoodIn wsX4_headBehind (wsV RX4 178 RX2 yX2_headOf wsX2_headOf) := goodIn_app (goodIn_of _ (by decide +kernel)) ggX4_headBehind_X2_headOf
theorem dX4_headBehind_0 : decode cX4_headBehind 0 = .ok (.aload_n 0, 1) := by decide +kernel
theorem dX4_headBehind_1 : decode cX4_headBehind 1 = .ok (.getfield 28, 3) := by decide +kernel
theorem dX4_headBehind_4 : decode cX4_headBehind 4 = .ok (.iload_n 1, 1) := by decide +kernel
theorem dX4_headBehind_5 : decode cX4_headBehind 5 = .ok (.iload_n 2, 1) := by decide +kernel
theorem dX4_headBehind_6 : decode cX4_headBehind 6 = .ok (.invokevirtual 84, 3) := by decide +kernel
theorem dX4_headBehind_9 : decode cX4_headBehind 9 = .ok (.istore_n 3, 1) := by decide +kernel
theorem dX4_headBehind_10 : decode cX4_headBehind 10 = .ok (.iload_n 3, 1) := by decide +kernel
theorem dX4_headBehind_11 : decode cX4_headBehind 11 = .ok (.iconst (-1), 1) := by decide +kernel
theorem dX4_headBehind_12 : decode cX4_headBehind 12 = .ok (.if_icmp .eq 21, 3) := by decide +kernel
theorem dX4_headBehind_15 : decode cX4_headBehind 15 = .ok (.aload_n 0, 1) := by decide +kernel
theorem dX4_headBehind_16 : decode cX4_headBehind 16 = .ok (.getfield 10, 3) := by decide +kernel
theorem dX4_headBehind_19 : decode cX4_headBehind 19 = .ok (.aload_n 0, 1) := by decide +kernel
theorem dX4_headBehind_20 : decode cX4_headBehind 20 = .ok (.getfield 28, 3) := by decide +kernel
theorem dX4_headBehind_23 : decode cX4_headBehind 23 = .ok (.iload_n 3, 1) := by decide +kernel
theorem dX4_headBehind_24 : decode cX4_headBehind 24 = .ok (.invokevirtual 212, 3) := by decide +kernel
theorem dX4_headBehind_27 : decode cX4_headBehind 27 = .ok (.invokevirtual 77, 3) := by decide +kernel
theorem dX4_headBehind_30 : decode cX4_headBehind 30 = .ok (.ifCond .eq 5, 3) := by decide +kernel
theorem dX4_headBehind_33 : decode cX4_headBehind 33 = .ok (.iconst (-1), 1) := by decide +kernel
theorem dX4_headBehind_34 : decode cX4_headBehind 34 = .ok (.ireturn, 1) := by decide +kernel
theorem dX4_headBehind_35 : decode cX4_headBehind 35 = .ok (.aload_n 0, 1) := by decide +kernel
theorem dX4_headBehind_36 : decode cX4_headBehind 36 = .ok (.getfield 10, 3) := by decide +kernel
theorem dX4_headBehind_39 : decode cX4_headBehind 39 = .ok (.aload_n 0, 1) := by decide +kernel
theorem dX4_headBehind_40 : decode cX4_headBehind 40 = .ok (.getfield 28, 3) := by decide +kernel
theorem dX4_headBehind_43 : decode cX4_headBehind 43 = .ok (.iload_n 3, 1) := by decide +kernel
theorem dX4_headBehind_44 : decode cX4_headBehind 44 = .ok (.invokevirtual 212, 3) := by decide +kernel
theorem dX4_headBehind_47 : decode cX4_headBehind 47 = .ok (.invokevirtual 178, 3) := by decide +kernel
theorem dX4_headBehind_50 : decode cX4_headBehind 50 = .ok (.ireturn, 1) := by decide +kernel
set_option maxRecDepth 20000 in
theorem ggX4_enter_X3_addRow : GoodIn wsX4_enter wsX3_addRow := goodIn_r _ [7, 8, 9, 10, 11, 6, 12, 13, 30, 31, 32, 33] (by decide +kernel) (by decide +kernel)
set_option maxRecDepth 20000 in
theorem gX4_enter_X3_addRow : GoodIn wsX4_enter (wsV RX4 97 RX3 yX3_addRow wsX3_addRow) := goodIn_app (goodIn_of _ (by decide +kernel)) ggX4_enter_X3_addRow
set_option maxRecDepth 20000 in
theorem ggX4_enter_X3_put : GoodIn wsX4_enter wsX3_put := goodIn_r _ [17, 18, 19, 20, 21, 22, 6, 23, 8, 30, 31, 32, 33] (by decide +kernel) (by decide +kernel)
set_option maxRecDepth 20000 in
theorem gX4_enter_X3_put : GoodIn wsX4_enter (wsV RX4 101 RX3 yX3_put wsX3_put) := goodIn_app (goodIn_of _ (by decide +kernel)) ggX4_enter_X3_put
theorem dX4_enter_0 : decode cX4_enter 0 = .ok (.aload_n 0, 1) := by decide +kernel
theorem dX4_enter_1 : decode cX4_enter 1 = .ok (.getfield 41, 3) := by decide +kernel
theorem dX4_enter_4 : decode cX4_enter 4 = .ok (.invokevirtual 97, 3) := by decide +kernel
theorem dX4_enter_7 : decode cX4_enter 7 = .ok (.istore 6, 2) := by decide +kernel
theorem dX4_enter_9 : decode cX4_enter 9 = .ok (.aload_n 0, 1) := by decide +kernel
theorem dX4_enter_10 : decode cX4_enter 10 = .ok (.getfield 41, 3) := by decide +kernel
theorem dX4_enter_13 : decode cX4_enter 13 = .ok (.iload 6, 2) := by decide +kernel
theorem dX4_enter_15 : decode cX4_enter 15 = .ok (.iconst 0, 1) := by decide +kernel
theorem dX4_enter_16 : decode cX4_enter 16 = .ok (.iload_n 1, 1) := by decide +kernel
theorem dX4_enter_17 : decode cX4_enter 17 = .ok (.invokevirtual 101, 3) := by decide +kernel
theorem dX4_enter_20 : decode cX4_enter 20 = .ok (.aload_n 0, 1) := by decide +kernel
theorem dX4_enter_21 : decode cX4_enter 21 = .ok (.getfield 41, 3) := by decide +kernel
theorem dX4_enter_24 : decode cX4_enter 24 = .ok (.iload 6, 2) := by decide +kernel
theorem dX4_enter_26 : decode cX4_enter 26 = .ok (.iconst 1, 1) := by decide +kernel
theorem dX4_enter_27 : decode cX4_enter 27 = .ok (.iload_n 2, 1) := by decide +kernel
theorem dX4_enter_28 : decode cX4_enter 28 = .ok (.invokevirtual 101, 3) := by decide +kernel
theorem dX4_enter_31 : decode cX4_enter 31 = .ok (.aload_n 0, 1) := by decide +kernel
theorem dX4_enter_32 : decode cX4_enter 32 = .ok (.getfield 41, 3) := by decide +kernel
theorem dX4_enter_35 : decode cX4_enter 35 = .ok (.iload 6, 2) := by decide +kernel
theorem dX4_enter_37 : decode cX4_enter 37 = .ok (.iconst 2, 1) := by decide +kernel
theorem dX4_enter_38 : decode cX4_enter 38 = .ok (.iload_n 3, 1) := by decide +kernel
theorem dX4_enter_39 : decode cX4_enter 39 = .ok (.invokevirtual 101, 3) := by decide +kernel
theorem dX4_enter_42 : decode cX4_enter 42 = .ok (.aload_n 0, 1) := by decide +kernel
theorem dX4_enter_43 : decode cX4_enter 43 = .ok (.getfield 41, 3) := by decide +kernel
theorem dX4_enter_46 : decode cX4_enter 46 = .ok (.iload 6, 2) := by decide +kernel
theorem dX4_enter_48 : decode cX4_enter 48 = .ok (.iconst 3, 1) := by decide +kernel
theorem dX4_enter_49 : decode cX4_enter 49 = .ok (.iload 4, 2) := by decide +kernel
theorem dX4_enter_51 : decode cX4_enter 51 = .ok (.invokevirtual 101, 3) := by decide +kernel
theorem dX4_enter_54 : decode cX4_enter 54 = .ok (.aload_n 0, 1) := by decide +kernel
theorem dX4_enter_55 : decode cX4_enter 55 = .ok (.getfield 41, 3) := by decide +kernel
theorem dX4_enter_58 : decode cX4_enter 58 = .ok (.iload 6, 2) := by decide +kernel
theorem dX4_enter_60 : decode cX4_enter 60 = .ok (.iconst 4, 1) := by decide +kernel
theorem dX4_enter_61 : decode cX4_enter 61 = .ok (.iload 5, 2) := by decide +kernel
theorem dX4_enter_63 : decode cX4_enter 63 = .ok (.invokevirtual 101, 3) := by decide +kernel
theorem dX4_enter_66 : decode cX4_enter 66 = .ok (.aload_n 0, 1) := by decide +kernel
theorem dX4_enter_67 : decode cX4_enter 67 = .ok (.getfield 41, 3) := by decide +kernel
theorem dX4_enter_70 : decode cX4_enter 70 = .ok (.iload 6, 2) := by decide +kernel
theorem dX4_enter_72 : decode cX4_enter 72 = .ok (.iconst 5, 1) := by decide +kernel
theorem dX4_enter_73 : decode cX4_enter 73 = .ok (.aload_n 0, 1) := by decide +kernel
theorem dX4_enter_74 : decode cX4_enter 74 = .ok (.getfield 44, 3) := by decide +kernel
theorem dX4_enter_77 : decode cX4_enter 77 = .ok (.invokevirtual 101, 3) := by decide +kernel
theorem dX4_enter_80 : decode cX4_enter 80 = .ok (.return_, 1) := by decide +kernel
set_option maxRecDepth 20000 in
theorem ggX4_isBridged_X3_size : GoodIn wsX4_isBridged wsX3_size := goodIn_r _ [6, 7, 24, 25, 26, 27] (by decide +kernel) (by decide +kernel)
set_option maxRecDepth 20000 in
theorem gX4_isBridged_X3_size : GoodIn wsX4_isBridged (wsV RX4 195 RX3 yX3_size wsX3_size) := goodIn_app (goodIn_of _ (by decide +kernel)) ggX4_isBridged_X3_size
set_option maxRecDepth 20000 in
theorem ggX4_isBridged_X3_at : GoodIn wsX4_isBridged wsX3_at := goodIn_r _ [11, 12, 13, 14, 15, 16, 5, 17, 7, 24, 25, 26, 27] (by decide +kernel) (by decide +kernel)
set_option maxRecDepth 20000 in
theorem gX4_isBridged_X3_at : GoodIn wsX4_isBridged (wsV RX4 172 RX3 yX3_at wsX3_at) := goodIn_app (goodIn_of _ (by decide +kernel)) ggX4_isBridged_X3_at
theorem dX4_isBridged_0 : decode cX4_isBridged 0 = .ok (.iconst 0, 1) := by decide +kernel
theorem dX4_isBridged_1 : decode cX4_isBridged 1 = .ok (.istore 4, 2) := by decide +kernel
theorem dX4_isBridged_3 : decode cX4_isBridged 3 = .ok (.iload 4, 2) := by decide +kernel
theorem dX4_isBridged_5 : decode cX4_isBridged 5 = .ok (.aload_n 0, 1) := by decide +kernel
theorem dX4_isBridged_6 : decode cX4_isBridged 6 = .ok (.getfield 37, 3) := by decide +kernel
theorem dX4_isBridged_9 : decode cX4_isBridged 9 = .ok (.invokevirtual 195, 3) := by decide +kernel
theorem dX4_isBridged_12 : decode cX4_isBridged 12 = .ok (.if_icmp .ge 79, 3) := by decide +kernel
theorem dX4_isBridged_15 : decode cX4_isBridged 15 = .ok (.aload_n 0, 1) := by decide +kernel
theorem dX4_isBridged_16 : decode cX4_isBridged 16 = .ok (.getfield 37, 3) := by decide +kernel
theorem dX4_isBridged_19 : decode cX4_isBridged 19 = .ok (.iload 4, 2) := by decide +kernel
theorem dX4_isBridged_21 : decode cX4_isBridged 21 = .ok (.iconst 0, 1) := by decide +kernel
theorem dX4_isBridged_22 : decode cX4_isBridged 22 = .ok (.invokevirtual 172, 3) := by decide +kernel
theorem dX4_isBridged_25 : decode cX4_isBridged 25 = .ok (.iload_n 1, 1) := by decide +kernel
theorem dX4_isBridged_26 : decode cX4_isBridged 26 = .ok (.if_icmp .ne 21, 3) := by decide +kernel
theorem dX4_isBridged_29 : decode cX4_isBridged 29 = .ok (.aload_n 0, 1) := by decide +kernel
theorem dX4_isBridged_30 : decode cX4_isBridged 30 = .ok (.getfield 37, 3) := by decide +kernel
theorem dX4_isBridged_33 : decode cX4_isBridged 33 = .ok (.iload 4, 2) := by decide +kernel
theorem dX4_isBridged_35 : decode cX4_isBridged 35 = .ok (.iconst 1, 1) := by decide +kernel
theorem dX4_isBridged_36 : decode cX4_isBridged 36 = .ok (.invokevirtual 172, 3) := by decide +kernel
theorem dX4_isBridged_39 : decode cX4_isBridged 39 = .ok (.iload_n 2, 1) := by decide +kernel
theorem dX4_isBridged_40 : decode cX4_isBridged 40 = .ok (.if_icmp .ne 7, 3) := by decide +kernel
theorem dX4_isBridged_43 : decode cX4_isBridged 43 = .ok (.iconst 1, 1) := by decide +kernel
theorem dX4_isBridged_44 : decode cX4_isBridged 44 = .ok (.goto 4, 3) := by decide +kernel
theorem dX4_isBridged_47 : decode cX4_isBridged 47 = .ok (.iconst 0, 1) := by decide +kernel
theorem dX4_isBridged_48 : decode cX4_isBridged 48 = .ok (.istore 5, 2) := by decide +kernel
theorem dX4_isBridged_50 : decode cX4_isBridged 50 = .ok (.iload 5, 2) := by decide +kernel
theorem dX4_isBridged_52 : decode cX4_isBridged 52 = .ok (.ifCond .eq 33, 3) := by decide +kernel
theorem dX4_isBridged_55 : decode cX4_isBridged 55 = .ok (.aload_n 0, 1) := by decide +kernel
theorem dX4_isBridged_56 : decode cX4_isBridged 56 = .ok (.getfield 37, 3) := by decide +kernel
theorem dX4_isBridged_59 : decode cX4_isBridged 59 = .ok (.iload 4, 2) := by decide +kernel
theorem dX4_isBridged_61 : decode cX4_isBridged 61 = .ok (.iconst 2, 1) := by decide +kernel
theorem dX4_isBridged_62 : decode cX4_isBridged 62 = .ok (.invokevirtual 172, 3) := by decide +kernel
theorem dX4_isBridged_65 : decode cX4_isBridged 65 = .ok (.iload_n 3, 1) := by decide +kernel
theorem dX4_isBridged_66 : decode cX4_isBridged 66 = .ok (.if_icmp .gt 19, 3) := by decide +kernel
theorem dX4_isBridged_69 : decode cX4_isBridged 69 = .ok (.iload_n 3, 1) := by decide +kernel
theorem dX4_isBridged_70 : decode cX4_isBridged 70 = .ok (.aload_n 0, 1) := by decide +kernel
theorem dX4_isBridged_71 : decode cX4_isBridged 71 = .ok (.getfield 37, 3) := by decide +kernel
theorem dX4_isBridged_74 : decode cX4_isBridged 74 = .ok (.iload 4, 2) := by decide +kernel
theorem dX4_isBridged_76 : decode cX4_isBridged 76 = .ok (.iconst 3, 1) := by decide +kernel
theorem dX4_isBridged_77 : decode cX4_isBridged 77 = .ok (.invokevirtual 172, 3) := by decide +kernel
theorem dX4_isBridged_80 : decode cX4_isBridged 80 = .ok (.if_icmp .gt 5, 3) := by decide +kernel
theorem dX4_isBridged_83 : decode cX4_isBridged 83 = .ok (.iconst 1, 1) := by decide +kernel
theorem dX4_isBridged_84 : decode cX4_isBridged 84 = .ok (.ireturn, 1) := by decide +kernel
theorem dX4_isBridged_85 : decode cX4_isBridged 85 = .ok (.iinc 4 1, 3) := by decide +kernel
theorem dX4_isBridged_88 : decode cX4_isBridged 88 = .ok (.goto (-85), 3) := by decide +kernel
theorem dX4_isBridged_91 : decode cX4_isBridged 91 = .ok (.iconst 0, 1) := by decide +kernel
theorem dX4_isBridged_92 : decode cX4_isBridged 92 = .ok (.ireturn, 1) := by decide +kernel
set_option maxRecDepth 20000 in
theorem ggX4_isTooSmall_X0_leastOf : GoodIn wsX4_isTooSmall wsX0_leastOf := goodIn_r _ [6, 7, 8, 9, 10, 11, 12, 13, 14, 15, 16, 17, 18, 19, 26, 27, 28, 29, 30] (by decide +kernel) (by decide +kernel)
set_option maxRecDepth 20000 in
theorem gX4_isTooSmall_X0_leastOf : GoodIn wsX4_isTooSmall (wsV RX4 221 RX0 yX0_leastOf wsX0_leastOf) := goodIn_app (goodIn_of _ (by decide +kernel)) ggX4_isTooSmall_X0_leastOf
theorem dX4_isTooSmall_0 : decode cX4_isTooSmall 0 = .ok (.iload_n 2, 1) := by decide +kernel
theorem dX4_isTooSmall_1 : decode cX4_isTooSmall 1 = .ok (.ifCond .eq 19, 3) := by decide +kernel
theorem dX4_isTooSmall_4 : decode cX4_isTooSmall 4 = .ok (.iload_n 2, 1) := by decide +kernel
theorem dX4_isTooSmall_5 : decode cX4_isTooSmall 5 = .ok (.aload_n 0, 1) := by decide +kernel
theorem dX4_isTooSmall_6 : decode cX4_isTooSmall 6 = .ok (.getfield 19, 3) := by decide +kernel
theorem dX4_isTooSmall_9 : decode cX4_isTooSmall 9 = .ok (.iload_n 1, 1) := by decide +kernel
theorem dX4_isTooSmall_10 : decode cX4_isTooSmall 10 = .ok (.invokevirtual 221, 3) := by decide +kernel
theorem dX4_isTooSmall_13 : decode cX4_isTooSmall 13 = .ok (.if_icmp .ge 7, 3) := by decide +kernel
theorem dX4_isTooSmall_16 : decode cX4_isTooSmall 16 = .ok (.iconst 1, 1) := by decide +kernel
theorem dX4_isTooSmall_17 : decode cX4_isTooSmall 17 = .ok (.goto 4, 3) := by decide +kernel
theorem dX4_isTooSmall_20 : decode cX4_isTooSmall 20 = .ok (.iconst 0, 1) := by decide +kernel
theorem dX4_isTooSmall_21 : decode cX4_isTooSmall 21 = .ok (.ireturn, 1) := by decide +kernel
set_option maxRecDepth 20000 in
theorem ggX4_areTwoHouses_X0_isThere : GoodIn wsX4_areTwoHouses wsX0_isThere := goodIn_r _ [6, 7, 8, 9, 10, 11, 12, 13, 20, 21, 22, 23, 24] (by decide +kernel) (by decide +kernel)
set_option maxRecDepth 20000 in
theorem gX4_areTwoHouses_X0_isThere : GoodIn wsX4_areTwoHouses (wsV RX4 73 RX0 yX0_isThere wsX0_isThere) := goodIn_app (goodIn_of _ (by decide +kernel)) ggX4_areTwoHouses_X0_isThere
theorem dX4_areTwoHouses_0 : decode cX4_areTwoHouses 0 = .ok (.aload_n 0, 1) := by decide +kernel
theorem dX4_areTwoHouses_1 : decode cX4_areTwoHouses 1 = .ok (.getfield 19, 3) := by decide +kernel
theorem dX4_areTwoHouses_4 : decode cX4_areTwoHouses 4 = .ok (.iload_n 1, 1) := by decide +kernel
theorem dX4_areTwoHouses_5 : decode cX4_areTwoHouses 5 = .ok (.invokevirtual 73, 3) := by decide +kernel
theorem dX4_areTwoHouses_8 : decode cX4_areTwoHouses 8 = .ok (.ifCond .eq 23, 3) := by decide +kernel
theorem dX4_areTwoHouses_11 : decode cX4_areTwoHouses 11 = .ok (.aload_n 0, 1) := by decide +kernel
theorem dX4_areTwoHouses_12 : decode cX4_areTwoHouses 12 = .ok (.getfield 19, 3) := by decide +kernel
theorem dX4_areTwoHouses_15 : decode cX4_areTwoHouses 15 = .ok (.iload_n 2, 1) := by decide +kernel
theorem dX4_areTwoHouses_16 : decode cX4_areTwoHouses 16 = .ok (.invokevirtual 73, 3) := by decide +kernel
theorem dX4_areTwoHouses_19 : decode cX4_areTwoHouses 19 = .ok (.ifCond .eq 12, 3) := by decide +kernel
theorem dX4_areTwoHouses_22 : decode cX4_areTwoHouses 22 = .ok (.iload_n 1, 1) := by decide +kernel
theorem dX4_areTwoHouses_23 : decode cX4_areTwoHouses 23 = .ok (.iload_n 2, 1) := by decide +kernel
theorem dX4_areTwoHouses_24 : decode cX4_areTwoHouses 24 = .ok (.if_icmp .eq 7, 3) := by decide +kernel
theorem dX4_areTwoHouses_27 : decode cX4_areTwoHouses 27 = .ok (.iconst 1, 1) := by decide +kernel
theorem dX4_areTwoHouses_28 : decode cX4_areTwoHouses 28 = .ok (.goto 4, 3) := by decide +kernel
theorem dX4_areTwoHouses_31 : decode cX4_areTwoHouses 31 = .ok (.iconst 0, 1) := by decide +kernel
theorem dX4_areTwoHouses_32 : decode cX4_areTwoHouses 32 = .ok (.ireturn, 1) := by decide +kernel
theorem dX4_isDay_0 : decode cX4_isDay 0 = .ok (.iload_n 0, 1) := by decide +kernel
theorem dX4_isDay_1 : decode cX4_isDay 1 = .ok (.ifCond .lt 14, 3) := by decide +kernel
theorem dX4_isDay_4 : decode cX4_isDay 4 = .ok (.iload_n 0, 1) := by decide +kernel
theorem dX4_isDay_5 : decode cX4_isDay 5 = .ok (.sipush 3000, 3) := by decide +kernel
theorem dX4_isDay_8 : decode cX4_isDay 8 = .ok (.if_icmp .gt 7, 3) := by decide +kernel
theorem dX4_isDay_11 : decode cX4_isDay 11 = .ok (.iconst 1, 1) := by decide +kernel
theorem dX4_isDay_12 : decode cX4_isDay 12 = .ok (.goto 4, 3) := by decide +kernel
theorem dX4_isDay_15 : decode cX4_isDay 15 = .ok (.iconst 0, 1) := by decide +kernel
theorem dX4_isDay_16 : decode cX4_isDay 16 = .ok (.ireturn, 1) := by decide +kernel
theorem dX4_isHand_0 : decode cX4_isHand 0 = .ok (.iload_n 0, 1) := by decide +kernel
theorem dX4_isHand_1 : decode cX4_isHand 1 = .ok (.ifCond .lt 13, 3) := by decide +kernel
theorem dX4_isHand_4 : decode cX4_isHand 4 = .ok (.iload_n 0, 1) := by decide +kernel
theorem dX4_isHand_5 : decode cX4_isHand 5 = .ok (.bipush 9, 2) := by decide +kernel
theorem dX4_isHand_7 : decode cX4_isHand 7 = .ok (.if_icmp .gt 7, 3) := by decide +kernel
theorem dX4_isHand_10 : decode cX4_isHand 10 = .ok (.iconst 1, 1) := by decide +kernel
theorem dX4_isHand_11 : decode cX4_isHand 11 = .ok (.goto 4, 3) := by decide +kernel
theorem dX4_isHand_14 : decode cX4_isHand 14 = .ok (.iconst 0, 1) := by decide +kernel
theorem dX4_isHand_15 : decode cX4_isHand 15 = .ok (.ireturn, 1) := by decide +kernel
theorem dX4_isReason_0 : decode cX4_isReason 0 = .ok (.iload_n 0, 1) := by decide +kernel
theorem dX4_isReason_1 : decode cX4_isReason 1 = .ok (.ifCond .lt 13, 3) := by decide +kernel
theorem dX4_isReason_4 : decode cX4_isReason 4 = .ok (.iload_n 0, 1) := by decide +kernel
theorem dX4_isReason_5 : decode cX4_isReason 5 = .ok (.bipush 7, 2) := by decide +kernel
theorem dX4_isReason_7 : decode cX4_isReason 7 = .ok (.if_icmp .gt 7, 3) := by decide +kernel
theorem dX4_isReason_10 : decode cX4_isReason 10 = .ok (.iconst 1, 1) := by decide +kernel
theorem dX4_isReason_11 : decode cX4_isReason 11 = .ok (.goto 4, 3) := by decide +kernel
theorem dX4_isReason_14 : decode cX4_isReason 14 = .ok (.iconst 0, 1) := by decide +kernel
theorem dX4_isReason_15 : decode cX4_isReason 15 = .ok (.ireturn, 1) := by decide +kernel
theorem dX4_areMarks_0 : decode cX4_areMarks 0 = .ok (.iload_n 0, 1) := by decide +kernel
theorem dX4_areMarks_1 : decode cX4_areMarks 1 = .ok (.ifCond .lt 13, 3) := by decide +kernel
theorem dX4_areMarks_4 : decode cX4_areMarks 4 = .ok (.iload_n 0, 1) := by decide +kernel
theorem dX4_areMarks_5 : decode cX4_areMarks 5 = .ok (.bipush 15, 2) := by decide +kernel
theorem dX4_areMarks_7 : decode cX4_areMarks 7 = .ok (.if_icmp .gt 7, 3) := by decide +kernel
theorem dX4_areMarks_10 : decode cX4_areMarks 10 = .ok (.iconst 1, 1) := by decide +kernel
theorem dX4_areMarks_11 : decode cX4_areMarks 11 = .ok (.goto 4, 3) := by decide +kernel
theorem dX4_areMarks_14 : decode cX4_areMarks 14 = .ok (.iconst 0, 1) := by decide +kernel
theorem dX4_areMarks_15 : decode cX4_areMarks 15 = .ok (.ireturn, 1) := by decide +kernel
theorem dX4_oneIf_0 : decode cX4_oneIf 0 = .ok (.iload_n 0, 1) := by decide +kernel
theorem dX4_oneIf_1 : decode cX4_oneIf 1 = .ok (.ifCond .eq 7, 3) := by decide +kernel
theorem dX4_oneIf_4 : decode cX4_oneIf 4 = .ok (.iconst 1, 1) := by decide +kernel
theorem dX4_oneIf_5 : decode cX4_oneIf 5 = .ok (.goto 4, 3) := by decide +kernel
theorem dX4_oneIf_8 : decode cX4_oneIf 8 = .ok (.iconst 0, 1) := by decide +kernel
theorem dX4_oneIf_9 : decode cX4_oneIf 9 = .ok (.ireturn, 1) := by decide +kernel
end
section
theorem dX5_init_0 : decode cX5_init 0 = .ok (.aload_n 0, 1) := by decide +kernel
theorem dX5_init_1 : decode cX5_init 1 = .ok (.invokespecial 1, 3) := by decide +kernel
theorem dX5_init_4 : decode cX5_init 4 = .ok (.aload_n 0, 1) := by decide +kernel
theorem dX5_init_5 : decode cX5_init 5 = .ok (.bipush 96, 2) := by decide +kernel
theorem dX5_init_7 : decode cX5_init 7 = .ok (.newarray .int, 2) := by decide +kernel
theorem dX5_init_9 : decode cX5_init 9 = .ok (.putfield 7, 3) := by decide +kernel
theorem dX5_init_12 : decode cX5_init 12 = .ok (.aload_n 0, 1) := by decide +kernel
theorem dX5_init_13 : decode cX5_init 13 = .ok (.bipush 24, 2) := by decide +kernel
theorem dX5_init_15 : decode cX5_init 15 = .ok (.newarray .int, 2) := by decide +kernel
theorem dX5_init_17 : decode cX5_init 17 = .ok (.putfield 13, 3) := by decide +kernel
theorem dX5_init_20 : decode cX5_init 20 = .ok (.aload_n 0, 1) := by decide +kernel
theorem dX5_init_21 : decode cX5_init 21 = .ok (.bipush 24, 2) := by decide +kernel
theorem dX5_init_23 : decode cX5_init 23 = .ok (.newarray .boolean, 2) := by decide +kernel
theorem dX5_init_25 : decode cX5_init 25 = .ok (.putfield 16, 3) := by decide +kernel
theorem dX5_init_28 : decode cX5_init 28 = .ok (.aload_n 0, 1) := by decide +kernel
theorem dX5_init_29 : decode cX5_init 29 = .ok (.iconst 5, 1) := by decide +kernel
theorem dX5_init_30 : decode cX5_init 30 = .ok (.newarray .int, 2) := by decide +kernel
theorem dX5_init_32 : decode cX5_init 32 = .ok (.putfield 20, 3) := by decide +kernel
theorem dX5_init_35 : decode cX5_init 35 = .ok (.aload_n 0, 1) := by decide +kernel
theorem dX5_init_36 : decode cX5_init 36 = .ok (.iconst 5, 1) := by decide +kernel
theorem dX5_init_37 : decode cX5_init 37 = .ok (.newarray .int, 2) := by decide +kernel
theorem dX5_init_39 : decode cX5_init 39 = .ok (.putfield 23, 3) := by decide +kernel
theorem dX5_init_42 : decode cX5_init 42 = .ok (.aload_n 0, 1) := by decide +kernel
theorem dX5_init_43 : decode cX5_init 43 = .ok (.iconst 5, 1) := by decide +kernel
theorem dX5_init_44 : decode cX5_init 44 = .ok (.newarray .int, 2) := by decide +kernel
theorem dX5_init_46 : decode cX5_init 46 = .ok (.putfield 26, 3) := by decide +kernel
theorem dX5_init_49 : decode cX5_init 49 = .ok (.aload_n 0, 1) := by decide +kernel
theorem dX5_init_50 : decode cX5_init 50 = .ok (.iconst 5, 1) := by decide +kernel
theorem dX5_init_51 : decode cX5_init 51 = .ok (.newarray .int, 2) := by decide +kernel
theorem dX5_init_53 : decode cX5_init 53 = .ok (.putfield 29, 3) := by decide +kernel
theorem dX5_init_56 : decode cX5_init 56 = .ok (.aload_n 0, 1) := by decide +kernel
theorem dX5_init_57 : decode cX5_init 57 = .ok (.iconst 5, 1) := by decide +kernel
theorem dX5_init_58 : decode cX5_init 58 = .ok (.newarray .int, 2) := by decide +kernel
theorem dX5_init_60 : decode cX5_init 60 = .ok (.putfield 32, 3) := by decide +kernel
theorem dX5_init_63 : decode cX5_init 63 = .ok (.aload_n 0, 1) := by decide +kernel
theorem dX5_init_64 : decode cX5_init 64 = .ok (.iconst 5, 1) := by decide +kernel
theorem dX5_init_65 : decode cX5_init 65 = .ok (.newarray .int, 2) := by decide +kernel
theorem dX5_init_67 : decode cX5_init 67 = .ok (.putfield 35, 3) := by decide +kernel
theorem dX5_init_70 : decode cX5_init 70 = .ok (.aload_n 0, 1) := by decide +kernel
theorem dX5_init_71 : decode cX5_init 71 = .ok (.iconst 5, 1) := by decide +kernel
theorem dX5_init_72 : decode cX5_init 72 = .ok (.newarray .boolean, 2) := by decide +kernel
theorem dX5_init_74 : decode cX5_init 74 = .ok (.putfield 38, 3) := by decide +kernel
theorem dX5_init_77 : decode cX5_init 77 = .ok (.aload_n 0, 1) := by decide +kernel
theorem dX5_init_78 : decode cX5_init 78 = .ok (.sipush 200, 3) := by decide +kernel
theorem dX5_init_81 : decode cX5_init 81 = .ok (.newarray .int, 2) := by decide +kernel
theorem dX5_init_83 : decode cX5_init 83 = .ok (.putfield 41, 3) := by decide +kernel
theorem dX5_init_86 : decode cX5_init 86 = .ok (.aload_n 0, 1) := by decide +kernel
theorem dX5_init_87 : decode cX5_init 87 = .ok (.sipush 200, 3) := by decide +kernel
theorem dX5_init_90 : decode cX5_init 90 = .ok (.newarray .int, 2) := by decide +kernel
theorem dX5_init_92 : decode cX5_init 92 = .ok (.putfield 44, 3) := by decide +kernel
theorem dX5_init_95 : decode cX5_init 95 = .ok (.aload_n 0, 1) := by decide +kernel
theorem dX5_init_96 : decode cX5_init 96 = .ok (.sipush 200, 3) := by decide +kernel
theorem dX5_init_99 : decode cX5_init 99 = .ok (.newarray .int, 2) := by decide +kernel
theorem dX5_init_101 : decode cX5_init 101 = .ok (.putfield 47, 3) := by decide +kernel
theorem dX5_init_104 : decode cX5_init 104 = .ok (.aload_n 0, 1) := by decide +kernel
theorem dX5_init_105 : decode cX5_init 105 = .ok (.sipush 200, 3) := by decide +kernel
theorem dX5_init_108 : decode cX5_init 108 = .ok (.newarray .int, 2) := by decide +kernel
theorem dX5_init_110 : decode cX5_init 110 = .ok (.putfield 50, 3) := by decide +kernel
theorem dX5_init_113 : decode cX5_init 113 = .ok (.aload_n 0, 1) := by decide +kernel
theorem dX5_init_114 : decode cX5_init 114 = .ok (.sipush 200, 3) := by decide +kernel
theorem dX5_init_117 : decode cX5_init 117 = .ok (.newarray .int, 2) := by decide +kernel
theorem dX5_init_119 : decode cX5_init 119 = .ok (.putfield 53, 3) := by decide +kernel
theorem dX5_init_122 : decode cX5_init 122 = .ok (.aload_n 0, 1) := by decide +kernel
theorem dX5_init_123 : decode cX5_init 123 = .ok (.bipush 20, 2) := by decide +kernel
theorem dX5_init_125 : decode cX5_init 125 = .ok (.newarray .int, 2) := by decide +kernel
theorem dX5_init_127 : decode cX5_init 127 = .ok (.putfield 56, 3) := by decide +kernel
theorem dX5_init_130 : decode cX5_init 130 = .ok (.aload_n 0, 1) := by decide +kernel
theorem dX5_init_131 : decode cX5_init 131 = .ok (.bipush 20, 2) := by decide +kernel
theorem dX5_init_133 : decode cX5_init 133 = .ok (.newarray .int, 2) := by decide +kernel
theorem dX5_init_135 : decode cX5_init 135 = .ok (.putfield 59, 3) := by decide +kernel
theorem dX5_init_138 : decode cX5_init 138 = .ok (.aload_n 0, 1) := by decide +kernel
theorem dX5_init_139 : decode cX5_init 139 = .ok (.bipush 20, 2) := by decide +kernel
theorem dX5_init_141 : decode cX5_init 141 = .ok (.newarray .int, 2) := by decide +kernel
theorem dX5_init_143 : decode cX5_init 143 = .ok (.putfield 62, 3) := by decide +kernel
theorem dX5_init_146 : decode cX5_init 146 = .ok (.aload_n 0, 1) := by decide +kernel
theorem dX5_init_147 : decode cX5_init 147 = .ok (.bipush 20, 2) := by decide +kernel
theorem dX5_init_149 : decode cX5_init 149 = .ok (.newarray .int, 2) := by decide +kernel
theorem dX5_init_151 : decode cX5_init 151 = .ok (.putfield 65, 3) := by decide +kernel
theorem dX5_init_154 : decode cX5_init 154 = .ok (.aload_n 0, 1) := by decide +kernel
theorem dX5_init_155 : decode cX5_init 155 = .ok (.sipush 1200, 3) := by decide +kernel
theorem dX5_init_158 : decode cX5_init 158 = .ok (.newarray .int, 2) := by decide +kernel
theorem dX5_init_160 : decode cX5_init 160 = .ok (.putfield 68, 3) := by decide +kernel
theorem dX5_init_163 : decode cX5_init 163 = .ok (.return_, 1) := by decide +kernel
theorem dX5_in_0 : decode cX5_in 0 = .ok (.iload_n 0, 1) := by decide +kernel
theorem dX5_in_1 : decode cX5_in 1 = .ok (.iload_n 1, 1) := by decide +kernel
theorem dX5_in_2 : decode cX5_in 2 = .ok (.if_icmp .lt 12, 3) := by decide +kernel
theorem dX5_in_5 : decode cX5_in 5 = .ok (.iload_n 0, 1) := by decide +kernel
theorem dX5_in_6 : decode cX5_in 6 = .ok (.iload_n 2, 1) := by decide +kernel
theorem dX5_in_7 : decode cX5_in 7 = .ok (.if_icmp .gt 7, 3) := by decide +kernel
theorem dX5_in_10 : decode cX5_in 10 = .ok (.iconst 1, 1) := by decide +kernel
theorem dX5_in_11 : decode cX5_in 11 = .ok (.goto 4, 3) := by decide +kernel
theorem dX5_in_14 : decode cX5_in 14 = .ok (.iconst 0, 1) := by decide +kernel
theorem dX5_in_15 : decode cX5_in 15 = .ok (.ireturn, 1) := by decide +kernel
theorem dX5_isPerson_0 : decode cX5_isPerson 0 = .ok (.iload_n 1, 1) := by decide +kernel
theorem dX5_isPerson_1 : decode cX5_isPerson 1 = .ok (.ifCond .lt 15, 3) := by decide +kernel
theorem dX5_isPerson_4 : decode cX5_isPerson 4 = .ok (.iload_n 1, 1) := by decide +kernel
theorem dX5_isPerson_5 : decode cX5_isPerson 5 = .ok (.aload_n 0, 1) := by decide +kernel
theorem dX5_isPerson_6 : decode cX5_isPerson 6 = .ok (.getfield 71, 3) := by decide +kernel
theorem dX5_isPerson_9 : decode cX5_isPerson 9 = .ok (.if_icmp .ge 7, 3) := by decide +kernel
theorem dX5_isPerson_12 : decode cX5_isPerson 12 = .ok (.iconst 1, 1) := by decide +kernel
theorem dX5_isPerson_13 : decode cX5_isPerson 13 = .ok (.goto 4, 3) := by decide +kernel
theorem dX5_isPerson_16 : decode cX5_isPerson 16 = .ok (.iconst 0, 1) := by decide +kernel
theorem dX5_isPerson_17 : decode cX5_isPerson 17 = .ok (.ireturn, 1) := by decide +kernel
theorem dX5_isMark_0 : decode cX5_isMark 0 = .ok (.iload_n 0, 1) := by decide +kernel
theorem dX5_isMark_1 : decode cX5_isMark 1 = .ok (.ifCond .lt 13, 3) := by decide +kernel
theorem dX5_isMark_4 : decode cX5_isMark 4 = .ok (.iload_n 0, 1) := by decide +kernel
theorem dX5_isMark_5 : decode cX5_isMark 5 = .ok (.bipush 7, 2) := by decide +kernel
theorem dX5_isMark_7 : decode cX5_isMark 7 = .ok (.if_icmp .gt 7, 3) := by decide +kernel
theorem dX5_isMark_10 : decode cX5_isMark 10 = .ok (.iconst 1, 1) := by decide +kernel
theorem dX5_isMark_11 : decode cX5_isMark 11 = .ok (.goto 4, 3) := by decide +kernel
theorem dX5_isMark_14 : decode cX5_isMark 14 = .ok (.iconst 0, 1) := by decide +kernel
theorem dX5_isMark_15 : decode cX5_isMark 15 = .ok (.ireturn, 1) := by decide +kernel
set_option maxRecDepth 20000 in
theorem ggX5_person_X5_isMark : GoodIn wsX5_person wsX5_isMark := goodIn_r _ [7] (by decide +kernel) (by decide +kernel)
set_option maxRecDepth 20000 in
theorem gX5_person_X5_isMark : GoodIn wsX5_person (va_wsS RX5 75 yX5_isMark wsX5_isMark) := goodIn_app (goodIn_of _ (by decide +kernel)) ggX5_person_X5_isMark
theorem dX5_person_0 : decode cX5_person 0 = .ok (.iload_n 1, 1) := by decide +kernel
theorem dX5_person_1 : decode cX5_person 1 = .ok (.invokestatic 75, 3) := by decide +kernel
theorem dX5_person_4 : decode cX5_person 4 = .ok (.ifCond .eq 34, 3) := by decide +kernel
theorem dX5_person_7 : decode cX5_person 7 = .ok (.iload_n 2, 1) := by decide +kernel
theorem dX5_person_8 : decode cX5_person 8 = .ok (.invokestatic 75, 3) := by decide +kernel
theorem dX5_person_11 : decode cX5_person 11 = .ok (.ifCond .eq 27, 3) := by decide +kernel
theorem dX5_person_14 : decode cX5_person 14 = .ok (.iload_n 3, 1) := by decide +kernel
theorem dX5_person_15 : decode cX5_person 15 = .ok (.invokestatic 75, 3) := by decide +kernel
theorem dX5_person_18 : decode cX5_person 18 = .ok (.ifCond .eq 20, 3) := by decide +kernel
theorem dX5_person_21 : decode cX5_person 21 = .ok (.iload 4, 2) := by decide +kernel
theorem dX5_person_23 : decode cX5_person 23 = .ok (.invokestatic 75, 3) := by decide +kernel
theorem dX5_person_26 : decode cX5_person 26 = .ok (.ifCond .eq 12, 3) := by decide +kernel
theorem dX5_person_29 : decode cX5_person 29 = .ok (.aload_n 0, 1) := by decide +kernel
theorem dX5_person_30 : decode cX5_person 30 = .ok (.getfield 71, 3) := by decide +kernel
theorem dX5_person_33 : decode cX5_person 33 = .ok (.bipush 24, 2) := by decide +kernel
theorem dX5_person_35 : decode cX5_person 35 = .ok (.if_icmp .ne 5, 3) := by decide +kernel
theorem dX5_person_38 : decode cX5_person 38 = .ok (.iconst (-1), 1) := by decide +kernel
theorem dX5_person_39 : decode cX5_person 39 = .ok (.ireturn, 1) := by decide +kernel
theorem dX5_person_40 : decode cX5_person 40 = .ok (.aload_n 0, 1) := by decide +kernel
theorem dX5_person_41 : decode cX5_person 41 = .ok (.getfield 7, 3) := by decide +kernel
theorem dX5_person_44 : decode cX5_person 44 = .ok (.iconst 4, 1) := by decide +kernel
theorem dX5_person_45 : decode cX5_person 45 = .ok (.aload_n 0, 1) := by decide +kernel
theorem dX5_person_46 : decode cX5_person 46 = .ok (.getfield 71, 3) := by decide +kernel
theorem dX5_person_49 : decode cX5_person 49 = .ok (.imul, 1) := by decide +kernel
theorem dX5_person_50 : decode cX5_person 50 = .ok (.iload_n 1, 1) := by decide +kernel
theorem dX5_person_51 : decode cX5_person 51 = .ok (.iastore, 1) := by decide +kernel
theorem dX5_person_52 : decode cX5_person 52 = .ok (.aload_n 0, 1) := by decide +kernel
theorem dX5_person_53 : decode cX5_person 53 = .ok (.getfield 7, 3) := by decide +kernel
theorem dX5_person_56 : decode cX5_person 56 = .ok (.iconst 4, 1) := by decide +kernel
theorem dX5_person_57 : decode cX5_person 57 = .ok (.aload_n 0, 1) := by decide +kernel
theorem dX5_person_58 : decode cX5_person 58 = .ok (.getfield 71, 3) := by decide +kernel
theorem dX5_person_61 : decode cX5_person 61 = .ok (.imul, 1) := by decide +kernel
theorem dX5_person_62 : decode cX5_person 62 = .ok (.iconst 1, 1) := by decide +kernel
theorem dX5_person_63 : decode cX5_person 63 = .ok (.iadd, 1) := by decide +kernel
theorem dX5_person_64 : decode cX5_person 64 = .ok (.iload_n 2, 1) := by decide +kernel
theorem dX5_person_65 : decode cX5_person 65 = .ok (.iastore, 1) := by decide +kernel
theorem dX5_person_66 : decode cX5_person 66 = .ok (.aload_n 0, 1) := by decide +kernel
theorem dX5_person_67 : decode cX5_person 67 = .ok (.getfield 7, 3) := by decide +kernel
theorem dX5_person_70 : decode cX5_person 70 = .ok (.iconst 4, 1) := by decide +kernel
theorem dX5_person_71 : decode cX5_person 71 = .ok (.aload_n 0, 1) := by decide +kernel
theorem dX5_person_72 : decode cX5_person 72 = .ok (.getfield 71, 3) := by decide +kernel
theorem dX5_person_75 : decode cX5_person 75 = .ok (.imul, 1) := by decide +kernel
theorem dX5_person_76 : decode cX5_person 76 = .ok (.iconst 2, 1) := by decide +kernel
theorem dX5_person_77 : decode cX5_person 77 = .ok (.iadd, 1) := by decide +kernel
theorem dX5_person_78 : decode cX5_person 78 = .ok (.iload_n 3, 1) := by decide +kernel
theorem dX5_person_79 : decode cX5_person 79 = .ok (.iastore, 1) := by decide +kernel
theorem dX5_person_80 : decode cX5_person 80 = .ok (.aload_n 0, 1) := by decide +kernel
theorem dX5_person_81 : decode cX5_person 81 = .ok (.getfield 7, 3) := by decide +kernel
theorem dX5_person_84 : decode cX5_person 84 = .ok (.iconst 4, 1) := by decide +kernel
theorem dX5_person_85 : decode cX5_person 85 = .ok (.aload_n 0, 1) := by decide +kernel
theorem dX5_person_86 : decode cX5_person 86 = .ok (.getfield 71, 3) := by decide +kernel
theorem dX5_person_89 : decode cX5_person 89 = .ok (.imul, 1) := by decide +kernel
theorem dX5_person_90 : decode cX5_person 90 = .ok (.iconst 3, 1) := by decide +kernel
theorem dX5_person_91 : decode cX5_person 91 = .ok (.iadd, 1) := by decide +kernel
theorem dX5_person_92 : decode cX5_person 92 = .ok (.iload 4, 2) := by decide +kernel
theorem dX5_person_94 : decode cX5_person 94 = .ok (.iastore, 1) := by decide +kernel
theorem dX5_person_95 : decode cX5_person 95 = .ok (.aload_n 0, 1) := by decide +kernel
theorem dX5_person_96 : decode cX5_person 96 = .ok (.getfield 13, 3) := by decide +kernel
theorem dX5_person_99 : decode cX5_person 99 = .ok (.aload_n 0, 1) := by decide +kernel
theorem dX5_person_100 : decode cX5_person 100 = .ok (.getfield 71, 3) := by decide +kernel
theorem dX5_person_103 : decode cX5_person 103 = .ok (.iconst (-1), 1) := by decide +kernel
theorem dX5_person_104 : decode cX5_person 104 = .ok (.iastore, 1) := by decide +kernel
theorem dX5_person_105 : decode cX5_person 105 = .ok (.aload_n 0, 1) := by decide +kernel
theorem dX5_person_106 : decode cX5_person 106 = .ok (.aload_n 0, 1) := by decide +kernel
theorem dX5_person_107 : decode cX5_person 107 = .ok (.getfield 71, 3) := by decide +kernel
theorem dX5_person_110 : decode cX5_person 110 = .ok (.iconst 1, 1) := by decide +kernel
theorem dX5_person_111 : decode cX5_person 111 = .ok (.iadd, 1) := by decide +kernel
theorem dX5_person_112 : decode cX5_person 112 = .ok (.putfield 71, 3) := by decide +kernel
theorem dX5_person_115 : decode cX5_person 115 = .ok (.aload_n 0, 1) := by decide +kernel
theorem dX5_person_116 : decode cX5_person 116 = .ok (.getfield 71, 3) := by decide +kernel
theorem dX5_person_119 : decode cX5_person 119 = .ok (.iconst 1, 1) := by decide +kernel
theorem dX5_person_120 : decode cX5_person 120 = .ok (.isub, 1) := by decide +kernel
theorem dX5_person_121 : decode cX5_person 121 = .ok (.ireturn, 1) := by decide +kernel
set_option maxRecDepth 20000 in
theorem ggX5_mark_X5_isPerson : GoodIn wsX5_mark wsX5_isPerson := goodIn_r _ [6, 7, 14, 15, 16, 17, 18, 19, 20, 21, 22, 23, 24, 25, 26, 27, 28, 29, 30, 31, 32, 33, 34, 35, 36, 37, 38, 39] (by decide +kernel) (by decide +kernel)
set_option maxRecDepth 20000 in
theorem gX5_mark_X5_isPerson : GoodIn wsX5_mark (wsV RX5 79 RX5 yX5_isPerson wsX5_isPerson) := goodIn_app (goodIn_of _ (by decide +kernel)) ggX5_mark_X5_isPerson
set_option maxRecDepth 20000 in
theorem ggX5_mark_X5_in : GoodIn wsX5_mark wsX5_in := goodIn_r _ [10] (by decide +kernel) (by decide +kernel)
set_option maxRecDepth 20000 in
theorem gX5_mark_X5_in : GoodIn wsX5_mark (va_wsS RX5 82 yX5_in wsX5_in) := goodIn_app (goodIn_of _ (by decide +kernel)) ggX5_mark_X5_in
set_option maxRecDepth 20000 in
theorem ggX5_mark_X5_isMark : GoodIn wsX5_mark wsX5_isMark := goodIn_r _ [13] (by decide +kernel) (by decide +kernel)
set_option maxRecDepth 20000 in
theorem gX5_mark_X5_isMark : GoodIn wsX5_mark (va_wsS RX5 75 yX5_isMark wsX5_isMark) := goodIn_app (goodIn_of _ (by decide +kernel)) ggX5_mark_X5_isMark
theorem dX5_mark_0 : decode cX5_mark 0 = .ok (.aload_n 0, 1) := by decide +kernel
theorem dX5_mark_1 : decode cX5_mark 1 = .ok (.iload_n 1, 1) := by decide +kernel
theorem dX5_mark_2 : decode cX5_mark 2 = .ok (.invokevirtual 79, 3) := by decide +kernel
theorem dX5_mark_5 : decode cX5_mark 5 = .ok (.ifCond .eq 19, 3) := by decide +kernel
theorem dX5_mark_8 : decode cX5_mark 8 = .ok (.iload_n 2, 1) := by decide +kernel
theorem dX5_mark_9 : decode cX5_mark 9 = .ok (.iconst 0, 1) := by decide +kernel
theorem dX5_mark_10 : decode cX5_mark 10 = .ok (.iconst 3, 1) := by decide +kernel
theorem dX5_mark_11 : decode cX5_mark 11 = .ok (.invokestatic 82, 3) := by decide +kernel
theorem dX5_mark_14 : decode cX5_mark 14 = .ok (.ifCond .eq 10, 3) := by decide +kernel
theorem dX5_mark_17 : decode cX5_mark 17 = .ok (.iload_n 3, 1) := by decide +kernel
theorem dX5_mark_18 : decode cX5_mark 18 = .ok (.invokestatic 75, 3) := by decide +kernel
theorem dX5_mark_21 : decode cX5_mark 21 = .ok (.ifCond .ne 5, 3) := by decide +kernel
theorem dX5_mark_24 : decode cX5_mark 24 = .ok (.iconst 0, 1) := by decide +kernel
theorem dX5_mark_25 : decode cX5_mark 25 = .ok (.ireturn, 1) := by decide +kernel
theorem dX5_mark_26 : decode cX5_mark 26 = .ok (.aload_n 0, 1) := by decide +kernel
theorem dX5_mark_27 : decode cX5_mark 27 = .ok (.getfield 7, 3) := by decide +kernel
theorem dX5_mark_30 : decode cX5_mark 30 = .ok (.iconst 4, 1) := by decide +kernel
theorem dX5_mark_31 : decode cX5_mark 31 = .ok (.iload_n 1, 1) := by decide +kernel
theorem dX5_mark_32 : decode cX5_mark 32 = .ok (.imul, 1) := by decide +kernel
theorem dX5_mark_33 : decode cX5_mark 33 = .ok (.iload_n 2, 1) := by decide +kernel
theorem dX5_mark_34 : decode cX5_mark 34 = .ok (.iadd, 1) := by decide +kernel
theorem dX5_mark_35 : decode cX5_mark 35 = .ok (.iload_n 3, 1) := by decide +kernel
theorem dX5_mark_36 : decode cX5_mark 36 = .ok (.iastore, 1) := by decide +kernel
theorem dX5_mark_37 : decode cX5_mark 37 = .ok (.iconst 1, 1) := by decide +kernel
theorem dX5_mark_38 : decode cX5_mark 38 = .ok (.ireturn, 1) := by decide +kernel
theorem dX5_head_0 : decode cX5_head 0 = .ok (.iload_n 1, 1) := by decide +kernel
theorem dX5_head_1 : decode cX5_head 1 = .ok (.istore_n 2, 1) := by decide +kernel
theorem dX5_head_2 : decode cX5_head 2 = .ok (.aload_n 0, 1) := by decide +kernel
theorem dX5_head_3 : decode cX5_head 3 = .ok (.getfield 13, 3) := by decide +kernel
theorem dX5_head_6 : decode cX5_head 6 = .ok (.iload_n 2, 1) := by decide +kernel
theorem dX5_head_7 : decode cX5_head 7 = .ok (.iaload, 1) := by decide +kernel
theorem dX5_head_8 : decode cX5_head 8 = .ok (.iconst (-1), 1) := by decide +kernel
theorem dX5_head_9 : decode cX5_head 9 = .ok (.if_icmp .eq 13, 3) := by decide +kernel
theorem dX5_head_12 : decode cX5_head 12 = .ok (.aload_n 0, 1) := by decide +kernel
theorem dX5_head_13 : decode cX5_head 13 = .ok (.getfield 13, 3) := by decide +kernel
theorem dX5_head_16 : decode cX5_head 16 = .ok (.iload_n 2, 1) := by decide +kernel
theorem dX5_head_17 : decode cX5_head 17 = .ok (.iaload, 1) := by decide +kernel
theorem dX5_head_18 : decode cX5_head 18 = .ok (.istore_n 2, 1) := by decide +kernel
theorem dX5_head_19 : decode cX5_head 19 = .ok (.goto (-17), 3) := by decide +kernel
theorem dX5_head_22 : decode cX5_head 22 = .ok (.iload_n 2, 1) := by decide +kernel
theorem dX5_head_23 : decode cX5_head 23 = .ok (.ireturn, 1) := by decide +kernel
set_option maxRecDepth 20000 in
theorem ggX5_strikes_X5_head : GoodIn wsX5_strikes wsX5_head := goodIn_r _ [7, 8, 9, 10, 11, 12, 13, 14, 15, 16, 17, 18, 19, 20, 21, 22, 23, 24, 25, 26, 27, 28, 29, 30, 31, 32, 33, 34] (by decide +kernel) (by decide +kernel)
set_option maxRecDepth 20000 in
theorem gX5_strikes_X5_head : GoodIn wsX5_strikes (wsV RX5 86 RX5 yX5_head wsX5_head) := goodIn_app (goodIn_of _ (by decide +kernel)) ggX5_strikes_X5_head
theorem dX5_strikes_0 : decode cX5_strikes 0 = .ok (.iconst 0, 1) := by decide +kernel
theorem dX5_strikes_1 : decode cX5_strikes 1 = .ok (.istore_n 2, 1) := by decide +kernel
theorem dX5_strikes_2 : decode cX5_strikes 2 = .ok (.iload_n 2, 1) := by decide +kernel
theorem dX5_strikes_3 : decode cX5_strikes 3 = .ok (.aload_n 0, 1) := by decide +kernel
theorem dX5_strikes_4 : decode cX5_strikes 4 = .ok (.getfield 71, 3) := by decide +kernel
theorem dX5_strikes_7 : decode cX5_strikes 7 = .ok (.if_icmp .ge 25, 3) := by decide +kernel
theorem dX5_strikes_10 : decode cX5_strikes 10 = .ok (.aload_n 0, 1) := by decide +kernel
theorem dX5_strikes_11 : decode cX5_strikes 11 = .ok (.iload_n 2, 1) := by decide +kernel
theorem dX5_strikes_12 : decode cX5_strikes 12 = .ok (.invokevirtual 86, 3) := by decide +kernel
theorem dX5_strikes_15 : decode cX5_strikes 15 = .ok (.iload_n 1, 1) := by decide +kernel
theorem dX5_strikes_16 : decode cX5_strikes 16 = .ok (.if_icmp .ne 10, 3) := by decide +kernel
theorem dX5_strikes_19 : decode cX5_strikes 19 = .ok (.aload_n 0, 1) := by decide +kernel
theorem dX5_strikes_20 : decode cX5_strikes 20 = .ok (.getfield 16, 3) := by decide +kernel
theorem dX5_strikes_23 : decode cX5_strikes 23 = .ok (.iload_n 2, 1) := by decide +kernel
theorem dX5_strikes_24 : decode cX5_strikes 24 = .ok (.iconst 1, 1) := by decide +kernel
theorem dX5_strikes_25 : decode cX5_strikes 25 = .ok (.bastore, 1) := by decide +kernel
theorem dX5_strikes_26 : decode cX5_strikes 26 = .ok (.iinc 2 1, 3) := by decide +kernel
theorem dX5_strikes_29 : decode cX5_strikes 29 = .ok (.goto (-27), 3) := by decide +kernel
theorem dX5_strikes_32 : decode cX5_strikes 32 = .ok (.return_, 1) := by decide +kernel
set_option maxRecDepth 20000 in
theorem ggX5_one_X5_isPerson : GoodIn wsX5_one wsX5_isPerson := goodIn_r _ [7, 8, 17, 18, 19, 20, 21, 22, 23, 24, 25, 26, 27, 28, 29, 30, 31, 32, 33, 34, 35, 36, 37, 38, 39, 40, 41, 42] (by decide +kernel) (by decide +kernel)
set_option maxRecDepth 20000 in
theorem gX5_one_X5_isPerson : GoodIn wsX5_one (wsV RX5 79 RX5 yX5_isPerson wsX5_isPerson) := goodIn_app (goodIn_of _ (by decide +kernel)) ggX5_one_X5_isPerson
set_option maxRecDepth 20000 in
theorem ggX5_one_X5_strikes : GoodIn wsX5_one wsX5_strikes := goodIn_r _ [12, 8, 2, 13, 14, 15, 6, 16, 1, 17, 18, 19, 20, 21, 22, 23, 24, 25, 26, 27, 28, 29, 30, 31, 32, 33, 34, 35, 36, 37, 38, 39, 40, 41, 42] (by decide +kernel) (by decide +kernel)
set_option maxRecDepth 20000 in
theorem gX5_one_X5_strikes : GoodIn wsX5_one (wsV RX5 90 RX5 yX5_strikes wsX5_strikes) := goodIn_app (goodIn_of _ (by decide +kernel)) ggX5_one_X5_strikes
theorem dX5_one_0 : decode cX5_one 0 = .ok (.aload_n 0, 1) := by decide +kernel
theorem dX5_one_1 : decode cX5_one 1 = .ok (.iload_n 1, 1) := by decide +kernel
theorem dX5_one_2 : decode cX5_one 2 = .ok (.invokevirtual 79, 3) := by decide +kernel
theorem dX5_one_5 : decode cX5_one 5 = .ok (.ifCond .eq 36, 3) := by decide +kernel
theorem dX5_one_8 : decode cX5_one 8 = .ok (.aload_n 0, 1) := by decide +kernel
theorem dX5_one_9 : decode cX5_one 9 = .ok (.iload_n 2, 1) := by decide +kernel
theorem dX5_one_10 : decode cX5_one 10 = .ok (.invokevirtual 79, 3) := by decide +kernel
theorem dX5_one_13 : decode cX5_one 13 = .ok (.ifCond .eq 28, 3) := by decide +kernel
theorem dX5_one_16 : decode cX5_one 16 = .ok (.iload_n 1, 1) := by decide +kernel
theorem dX5_one_17 : decode cX5_one 17 = .ok (.iload_n 2, 1) := by decide +kernel
theorem dX5_one_18 : decode cX5_one 18 = .ok (.if_icmp .eq 23, 3) := by decide +kernel
theorem dX5_one_21 : decode cX5_one 21 = .ok (.aload_n 0, 1) := by decide +kernel
theorem dX5_one_22 : decode cX5_one 22 = .ok (.getfield 13, 3) := by decide +kernel
theorem dX5_one_25 : decode cX5_one 25 = .ok (.iload_n 1, 1) := by decide +kernel
theorem dX5_one_26 : decode cX5_one 26 = .ok (.iaload, 1) := by decide +kernel
theorem dX5_one_27 : decode cX5_one 27 = .ok (.iconst (-1), 1) := by decide +kernel
theorem dX5_one_28 : decode cX5_one 28 = .ok (.if_icmp .ne 13, 3) := by decide +kernel
theorem dX5_one_31 : decode cX5_one 31 = .ok (.aload_n 0, 1) := by decide +kernel
theorem dX5_one_32 : decode cX5_one 32 = .ok (.getfield 13, 3) := by decide +kernel
theorem dX5_one_35 : decode cX5_one 35 = .ok (.iload_n 2, 1) := by decide +kernel
theorem dX5_one_36 : decode cX5_one 36 = .ok (.iaload, 1) := by decide +kernel
theorem dX5_one_37 : decode cX5_one 37 = .ok (.iconst (-1), 1) := by decide +kernel
theorem dX5_one_38 : decode cX5_one 38 = .ok (.if_icmp .eq 5, 3) := by decide +kernel
theorem dX5_one_41 : decode cX5_one 41 = .ok (.iconst 0, 1) := by decide +kernel
theorem dX5_one_42 : decode cX5_one 42 = .ok (.ireturn, 1) := by decide +kernel
theorem dX5_one_43 : decode cX5_one 43 = .ok (.aload_n 0, 1) := by decide +kernel
theorem dX5_one_44 : decode cX5_one 44 = .ok (.getfield 16, 3) := by decide +kernel
theorem dX5_one_47 : decode cX5_one 47 = .ok (.iload_n 1, 1) := by decide +kernel
theorem dX5_one_48 : decode cX5_one 48 = .ok (.baload, 1) := by decide +kernel
theorem dX5_one_49 : decode cX5_one 49 = .ok (.ifCond .ne 12, 3) := by decide +kernel
theorem dX5_one_52 : decode cX5_one 52 = .ok (.aload_n 0, 1) := by decide +kernel
theorem dX5_one_53 : decode cX5_one 53 = .ok (.getfield 16, 3) := by decide +kernel
theorem dX5_one_56 : decode cX5_one 56 = .ok (.iload_n 2, 1) := by decide +kernel
theorem dX5_one_57 : decode cX5_one 57 = .ok (.baload, 1) := by decide +kernel
theorem dX5_one_58 : decode cX5_one 58 = .ok (.ifCond .eq 7, 3) := by decide +kernel
theorem dX5_one_61 : decode cX5_one 61 = .ok (.iconst 1, 1) := by decide +kernel
theorem dX5_one_62 : decode cX5_one 62 = .ok (.goto 4, 3) := by decide +kernel
theorem dX5_one_65 : decode cX5_one 65 = .ok (.iconst 0, 1) := by decide +kernel
theorem dX5_one_66 : decode cX5_one 66 = .ok (.istore_n 3, 1) := by decide +kernel
theorem dX5_one_67 : decode cX5_one 67 = .ok (.aload_n 0, 1) := by decide +kernel
theorem dX5_one_68 : decode cX5_one 68 = .ok (.getfield 13, 3) := by decide +kernel
theorem dX5_one_71 : decode cX5_one 71 = .ok (.iload_n 2, 1) := by decide +kernel
theorem dX5_one_72 : decode cX5_one 72 = .ok (.iload_n 1, 1) := by decide +kernel
theorem dX5_one_73 : decode cX5_one 73 = .ok (.iastore, 1) := by decide +kernel
theorem dX5_one_74 : decode cX5_one 74 = .ok (.iload_n 3, 1) := by decide +kernel
theorem dX5_one_75 : decode cX5_one 75 = .ok (.ifCond .eq 8, 3) := by decide +kernel
theorem dX5_one_78 : decode cX5_one 78 = .ok (.aload_n 0, 1) := by decide +kernel
theorem dX5_one_79 : decode cX5_one 79 = .ok (.iload_n 1, 1) := by decide +kernel
theorem dX5_one_80 : decode cX5_one 80 = .ok (.invokevirtual 90, 3) := by decide +kernel
theorem dX5_one_83 : decode cX5_one 83 = .ok (.iconst 1, 1) := by decide +kernel
theorem dX5_one_84 : decode cX5_one 84 = .ok (.ireturn, 1) := by decide +kernel
set_option maxRecDepth 20000 in
theorem ggX5_part_X5_isPerson : GoodIn wsX5_part wsX5_isPerson := goodIn_r _ [6, 7, 8, 9, 10, 11, 12, 13, 14, 15, 16, 17, 18, 19, 20, 21, 22, 23, 24, 25, 26, 27, 28, 29, 30, 31, 32, 33] (by decide +kernel) (by decide +kernel)
set_option maxRecDepth 20000 in
theorem gX5_part_X5_isPerson : GoodIn wsX5_part (wsV RX5 79 RX5 yX5_isPerson wsX5_isPerson) := goodIn_app (goodIn_of _ (by decide +kernel)) ggX5_part_X5_isPerson
theorem dX5_part_0 : decode cX5_part 0 = .ok (.aload_n 0, 1) := by decide +kernel
theorem dX5_part_1 : decode cX5_part 1 = .ok (.iload_n 1, 1) := by decide +kernel
theorem dX5_part_2 : decode cX5_part 2 = .ok (.invokevirtual 79, 3) := by decide +kernel
theorem dX5_part_5 : decode cX5_part 5 = .ok (.ifCond .eq 13, 3) := by decide +kernel
theorem dX5_part_8 : decode cX5_part 8 = .ok (.aload_n 0, 1) := by decide +kernel
theorem dX5_part_9 : decode cX5_part 9 = .ok (.getfield 13, 3) := by decide +kernel
theorem dX5_part_12 : decode cX5_part 12 = .ok (.iload_n 1, 1) := by decide +kernel
theorem dX5_part_13 : decode cX5_part 13 = .ok (.iaload, 1) := by decide +kernel
theorem dX5_part_14 : decode cX5_part 14 = .ok (.iconst (-1), 1) := by decide +kernel
theorem dX5_part_15 : decode cX5_part 15 = .ok (.if_icmp .ne 5, 3) := by decide +kernel
theorem dX5_part_18 : decode cX5_part 18 = .ok (.iconst 0, 1) := by decide +kernel
theorem dX5_part_19 : decode cX5_part 19 = .ok (.ireturn, 1) := by decide +kernel
theorem dX5_part_20 : decode cX5_part 20 = .ok (.aload_n 0, 1) := by decide +kernel
theorem dX5_part_21 : decode cX5_part 21 = .ok (.getfield 13, 3) := by decide +kernel
theorem dX5_part_24 : decode cX5_part 24 = .ok (.iload_n 1, 1) := by decide +kernel
theorem dX5_part_25 : decode cX5_part 25 = .ok (.iconst (-1), 1) := by decide +kernel
theorem dX5_part_26 : decode cX5_part 26 = .ok (.iastore, 1) := by decide +kernel
theorem dX5_part_27 : decode cX5_part 27 = .ok (.iconst 1, 1) := by decide +kernel
theorem dX5_part_28 : decode cX5_part 28 = .ok (.ireturn, 1) := by decide +kernel
set_option maxRecDepth 20000 in
theorem ggX5_strike_X5_isPerson : GoodIn wsX5_strike wsX5_isPerson := goodIn_r _ [6, 7, 17, 18, 19, 20, 21, 22, 23, 24, 25, 26, 27, 28, 29, 30, 31, 32, 33, 34, 35, 36, 37, 38, 39, 40, 41, 42] (by decide +kernel) (by decide +kernel)
set_option maxRecDepth 20000 in
theorem gX5_strike_X5_isPerson : GoodIn wsX5_strike (wsV RX5 79 RX5 yX5_isPerson wsX5_isPerson) := goodIn_app (goodIn_of _ (by decide +kernel)) ggX5_strike_X5_isPerson
set_option maxRecDepth 20000 in
theorem ggX5_strike_X5_head : GoodIn wsX5_strike wsX5_head := goodIn_r _ [11, 12, 17, 18, 19, 20, 21, 22, 23, 24, 25, 26, 27, 28, 29, 30, 31, 32, 33, 34, 35, 36, 37, 38, 39, 40, 41, 42] (by decide +kernel) (by decide +kernel)
set_option maxRecDepth 20000 in
theorem gX5_strike_X5_head : GoodIn wsX5_strike (wsV RX5 86 RX5 yX5_head wsX5_head) := goodIn_app (goodIn_of _ (by decide +kernel)) ggX5_strike_X5_head
set_option maxRecDepth 20000 in
theorem ggX5_strike_X5_strikes : GoodIn wsX5_strike wsX5_strikes := goodIn_r _ [16, 7, 1, 8, 9, 10, 5, 11, 12, 17, 18, 19, 20, 21, 22, 23, 24, 25, 26, 27, 28, 29, 30, 31, 32, 33, 34, 35, 36, 37, 38, 39, 40, 41, 42] (by decide +kernel) (by decide +kernel)
set_option maxRecDepth 20000 in
theorem gX5_strike_X5_strikes : GoodIn wsX5_strike (wsV RX5 90 RX5 yX5_strikes wsX5_strikes) := goodIn_app (goodIn_of _ (by decide +kernel)) ggX5_strike_X5_strikes
theorem dX5_strike_0 : decode cX5_strike 0 = .ok (.aload_n 0, 1) := by decide +kernel
theorem dX5_strike_1 : decode cX5_strike 1 = .ok (.iload_n 1, 1) := by decide +kernel
theorem dX5_strike_2 : decode cX5_strike 2 = .ok (.invokevirtual 79, 3) := by decide +kernel
theorem dX5_strike_5 : decode cX5_strike 5 = .ok (.ifCond .eq 12, 3) := by decide +kernel
theorem dX5_strike_8 : decode cX5_strike 8 = .ok (.aload_n 0, 1) := by decide +kernel
theorem dX5_strike_9 : decode cX5_strike 9 = .ok (.getfield 16, 3) := by decide +kernel
theorem dX5_strike_12 : decode cX5_strike 12 = .ok (.iload_n 1, 1) := by decide +kernel
theorem dX5_strike_13 : decode cX5_strike 13 = .ok (.baload, 1) := by decide +kernel
theorem dX5_strike_14 : decode cX5_strike 14 = .ok (.ifCond .eq 5, 3) := by decide +kernel
theorem dX5_strike_17 : decode cX5_strike 17 = .ok (.iconst 0, 1) := by decide +kernel
theorem dX5_strike_18 : decode cX5_strike 18 = .ok (.ireturn, 1) := by decide +kernel
theorem dX5_strike_19 : decode cX5_strike 19 = .ok (.aload_n 0, 1) := by decide +kernel
theorem dX5_strike_20 : decode cX5_strike 20 = .ok (.aload_n 0, 1) := by decide +kernel
theorem dX5_strike_21 : decode cX5_strike 21 = .ok (.iload_n 1, 1) := by decide +kernel
theorem dX5_strike_22 : decode cX5_strike 22 = .ok (.invokevirtual 86, 3) := by decide +kernel
theorem dX5_strike_25 : decode cX5_strike 25 = .ok (.invokevirtual 90, 3) := by decide +kernel
theorem dX5_strike_28 : decode cX5_strike 28 = .ok (.iconst 1, 1) := by decide +kernel
theorem dX5_strike_29 : decode cX5_strike 29 = .ok (.ireturn, 1) := by decide +kernel
theorem dX5_day_0 : decode cX5_day 0 = .ok (.iload_n 1, 1) := by decide +kernel
theorem dX5_day_1 : decode cX5_day 1 = .ok (.aload_n 0, 1) := by decide +kernel
theorem dX5_day_2 : decode cX5_day 2 = .ok (.getfield 94, 3) := by decide +kernel
theorem dX5_day_5 : decode cX5_day 5 = .ok (.if_icmp .lt 10, 3) := by decide +kernel
theorem dX5_day_8 : decode cX5_day 8 = .ok (.iload_n 1, 1) := by decide +kernel
theorem dX5_day_9 : decode cX5_day 9 = .ok (.sipush 3000, 3) := by decide +kernel
theorem dX5_day_12 : decode cX5_day 12 = .ok (.if_icmp .le 5, 3) := by decide +kernel
theorem dX5_day_15 : decode cX5_day 15 = .ok (.iconst 0, 1) := by decide +kernel
theorem dX5_day_16 : decode cX5_day 16 = .ok (.ireturn, 1) := by decide +kernel
theorem dX5_day_17 : decode cX5_day 17 = .ok (.aload_n 0, 1) := by decide +kernel
theorem dX5_day_18 : decode cX5_day 18 = .ok (.iload_n 1, 1) := by decide +kernel
theorem dX5_day_19 : decode cX5_day 19 = .ok (.putfield 94, 3) := by decide +kernel
theorem dX5_day_22 : decode cX5_day 22 = .ok (.iconst 1, 1) := by decide +kernel
theorem dX5_day_23 : decode cX5_day 23 = .ok (.ireturn, 1) := by decide +kernel
theorem dX5_isHouse_0 : decode cX5_isHouse 0 = .ok (.iload_n 1, 1) := by decide +kernel
theorem dX5_isHouse_1 : decode cX5_isHouse 1 = .ok (.ifCond .lt 15, 3) := by decide +kernel
theorem dX5_isHouse_4 : decode cX5_isHouse 4 = .ok (.iload_n 1, 1) := by decide +kernel
theorem dX5_isHouse_5 : decode cX5_isHouse 5 = .ok (.aload_n 0, 1) := by decide +kernel
theorem dX5_isHouse_6 : decode cX5_isHouse 6 = .ok (.getfield 97, 3) := by decide +kernel
theorem dX5_isHouse_9 : decode cX5_isHouse 9 = .ok (.if_icmp .ge 7, 3) := by decide +kernel
theorem dX5_isHouse_12 : decode cX5_isHouse 12 = .ok (.iconst 1, 1) := by decide +kernel
theorem dX5_isHouse_13 : decode cX5_isHouse 13 = .ok (.goto 4, 3) := by decide +kernel
theorem dX5_isHouse_16 : decode cX5_isHouse 16 = .ok (.iconst 0, 1) := by decide +kernel
theorem dX5_isHouse_17 : decode cX5_isHouse 17 = .ok (.ireturn, 1) := by decide +kernel
set_option maxRecDepth 20000 in
theorem ggX5_house_X5_in : GoodIn wsX5_house wsX5_in := goodIn_r _ [10] (by decide +kernel) (by decide +kernel)
set_option maxRecDepth 20000 in
theorem gX5_house_X5_in : GoodIn wsX5_house (va_wsS RX5 82 yX5_in wsX5_in) := goodIn_app (goodIn_of _ (by decide +kernel)) ggX5_house_X5_in
theorem dX5_house_0 : decode cX5_house 0 = .ok (.iload_n 1, 1) := by decide +kernel
theorem dX5_house_1 : decode cX5_house 1 = .ok (.iconst 0, 1) := by decide +kernel
theorem dX5_house_2 : decode cX5_house 2 = .ok (.iconst 2, 1) := by decide +kernel
theorem dX5_house_3 : decode cX5_house 3 = .ok (.invokestatic 82, 3) := by decide +kernel
theorem dX5_house_6 : decode cX5_house 6 = .ok (.ifCond .eq 56, 3) := by decide +kernel
theorem dX5_house_9 : decode cX5_house 9 = .ok (.iload_n 2, 1) := by decide +kernel
theorem dX5_house_10 : decode cX5_house 10 = .ok (.iconst 1, 1) := by decide +kernel
theorem dX5_house_11 : decode cX5_house 11 = .ok (.sipush 365, 3) := by decide +kernel
theorem dX5_house_14 : decode cX5_house 14 = .ok (.invokestatic 82, 3) := by decide +kernel
theorem dX5_house_17 : decode cX5_house 17 = .ok (.ifCond .eq 45, 3) := by decide +kernel
theorem dX5_house_20 : decode cX5_house 20 = .ok (.iload_n 3, 1) := by decide +kernel
theorem dX5_house_21 : decode cX5_house 21 = .ok (.iconst 1, 1) := by decide +kernel
theorem dX5_house_22 : decode cX5_house 22 = .ok (.sipush 9972, 3) := by decide +kernel
theorem dX5_house_25 : decode cX5_house 25 = .ok (.invokestatic 82, 3) := by decide +kernel
theorem dX5_house_28 : decode cX5_house 28 = .ok (.ifCond .eq 34, 3) := by decide +kernel
theorem dX5_house_31 : decode cX5_house 31 = .ok (.iload 4, 2) := by decide +kernel
theorem dX5_house_33 : decode cX5_house 33 = .ok (.iconst 0, 1) := by decide +kernel
theorem dX5_house_34 : decode cX5_house 34 = .ok (.sipush 255, 3) := by decide +kernel
theorem dX5_house_37 : decode cX5_house 37 = .ok (.invokestatic 82, 3) := by decide +kernel
theorem dX5_house_40 : decode cX5_house 40 = .ok (.ifCond .eq 22, 3) := by decide +kernel
theorem dX5_house_43 : decode cX5_house 43 = .ok (.iload 5, 2) := by decide +kernel
theorem dX5_house_45 : decode cX5_house 45 = .ok (.iconst 0, 1) := by decide +kernel
theorem dX5_house_46 : decode cX5_house 46 = .ok (.bipush 24, 2) := by decide +kernel
theorem dX5_house_48 : decode cX5_house 48 = .ok (.invokestatic 82, 3) := by decide +kernel
theorem dX5_house_51 : decode cX5_house 51 = .ok (.ifCond .eq 11, 3) := by decide +kernel
theorem dX5_house_54 : decode cX5_house 54 = .ok (.aload_n 0, 1) := by decide +kernel
theorem dX5_house_55 : decode cX5_house 55 = .ok (.getfield 97, 3) := by decide +kernel
theorem dX5_house_58 : decode cX5_house 58 = .ok (.iconst 5, 1) := by decide +kernel
theorem dX5_house_59 : decode cX5_house 59 = .ok (.if_icmp .ne 5, 3) := by decide +kernel
theorem dX5_house_62 : decode cX5_house 62 = .ok (.iconst (-1), 1) := by decide +kernel
theorem dX5_house_63 : decode cX5_house 63 = .ok (.ireturn, 1) := by decide +kernel
theorem dX5_house_64 : decode cX5_house 64 = .ok (.aload_n 0, 1) := by decide +kernel
theorem dX5_house_65 : decode cX5_house 65 = .ok (.getfield 20, 3) := by decide +kernel
theorem dX5_house_68 : decode cX5_house 68 = .ok (.aload_n 0, 1) := by decide +kernel
theorem dX5_house_69 : decode cX5_house 69 = .ok (.getfield 97, 3) := by decide +kernel
theorem dX5_house_72 : decode cX5_house 72 = .ok (.iload_n 1, 1) := by decide +kernel
theorem dX5_house_73 : decode cX5_house 73 = .ok (.iastore, 1) := by decide +kernel
theorem dX5_house_74 : decode cX5_house 74 = .ok (.aload_n 0, 1) := by decide +kernel
theorem dX5_house_75 : decode cX5_house 75 = .ok (.getfield 23, 3) := by decide +kernel
theorem dX5_house_78 : decode cX5_house 78 = .ok (.aload_n 0, 1) := by decide +kernel
theorem dX5_house_79 : decode cX5_house 79 = .ok (.getfield 97, 3) := by decide +kernel
theorem dX5_house_82 : decode cX5_house 82 = .ok (.iload_n 2, 1) := by decide +kernel
theorem dX5_house_83 : decode cX5_house 83 = .ok (.iastore, 1) := by decide +kernel
theorem dX5_house_84 : decode cX5_house 84 = .ok (.aload_n 0, 1) := by decide +kernel
theorem dX5_house_85 : decode cX5_house 85 = .ok (.getfield 26, 3) := by decide +kernel
theorem dX5_house_88 : decode cX5_house 88 = .ok (.aload_n 0, 1) := by decide +kernel
theorem dX5_house_89 : decode cX5_house 89 = .ok (.getfield 97, 3) := by decide +kernel
theorem dX5_house_92 : decode cX5_house 92 = .ok (.iload_n 3, 1) := by decide +kernel
theorem dX5_house_93 : decode cX5_house 93 = .ok (.iastore, 1) := by decide +kernel
theorem dX5_house_94 : decode cX5_house 94 = .ok (.aload_n 0, 1) := by decide +kernel
theorem dX5_house_95 : decode cX5_house 95 = .ok (.getfield 29, 3) := by decide +kernel
theorem dX5_house_98 : decode cX5_house 98 = .ok (.aload_n 0, 1) := by decide +kernel
theorem dX5_house_99 : decode cX5_house 99 = .ok (.getfield 97, 3) := by decide +kernel
theorem dX5_house_102 : decode cX5_house 102 = .ok (.iload 4, 2) := by decide +kernel
theorem dX5_house_104 : decode cX5_house 104 = .ok (.iastore, 1) := by decide +kernel
theorem dX5_house_105 : decode cX5_house 105 = .ok (.aload_n 0, 1) := by decide +kernel
theorem dX5_house_106 : decode cX5_house 106 = .ok (.getfield 32, 3) := by decide +kernel
theorem dX5_house_109 : decode cX5_house 109 = .ok (.aload_n 0, 1) := by decide +kernel
theorem dX5_house_110 : decode cX5_house 110 = .ok (.getfield 97, 3) := by decide +kernel
theorem dX5_house_113 : decode cX5_house 113 = .ok (.iload 5, 2) := by decide +kernel
theorem dX5_house_115 : decode cX5_house 115 = .ok (.iastore, 1) := by decide +kernel
theorem dX5_house_116 : decode cX5_house 116 = .ok (.aload_n 0, 1) := by decide +kernel
theorem dX5_house_117 : decode cX5_house 117 = .ok (.aload_n 0, 1) := by decide +kernel
theorem dX5_house_118 : decode cX5_house 118 = .ok (.getfield 97, 3) := by decide +kernel
theorem dX5_house_121 : decode cX5_house 121 = .ok (.iconst 1, 1) := by decide +kernel
theorem dX5_house_122 : decode cX5_house 122 = .ok (.iadd, 1) := by decide +kernel
theorem dX5_house_123 : decode cX5_house 123 = .ok (.putfield 97, 3) := by decide +kernel
theorem dX5_house_126 : decode cX5_house 126 = .ok (.aload_n 0, 1) := by decide +kernel
theorem dX5_house_127 : decode cX5_house 127 = .ok (.getfield 97, 3) := by decide +kernel
theorem dX5_house_130 : decode cX5_house 130 = .ok (.iconst 1, 1) := by decide +kernel
theorem dX5_house_131 : decode cX5_house 131 = .ok (.isub, 1) := by decide +kernel
theorem dX5_house_132 : decode cX5_house 132 = .ok (.ireturn, 1) := by decide +kernel
theorem dX5_spanNow_0 : decode cX5_spanNow 0 = .ok (.aload_n 0, 1) := by decide +kernel
theorem dX5_spanNow_1 : decode cX5_spanNow 1 = .ok (.getfield 20, 3) := by decide +kernel
theorem dX5_spanNow_4 : decode cX5_spanNow 4 = .ok (.iload_n 1, 1) := by decide +kernel
theorem dX5_spanNow_5 : decode cX5_spanNow 5 = .ok (.iaload, 1) := by decide +kernel
theorem dX5_spanNow_6 : decode cX5_spanNow 6 = .ok (.iconst 1, 1) := by decide +kernel
theorem dX5_spanNow_7 : decode cX5_spanNow 7 = .ok (.if_icmp .ne 17, 3) := by decide +kernel
theorem dX5_spanNow_10 : decode cX5_spanNow 10 = .ok (.aload_n 0, 1) := by decide +kernel
theorem dX5_spanNow_11 : decode cX5_spanNow 11 = .ok (.getfield 94, 3) := by decide +kernel
theorem dX5_spanNow_14 : decode cX5_spanNow 14 = .ok (.aload_n 0, 1) := by decide +kernel
theorem dX5_spanNow_15 : decode cX5_spanNow 15 = .ok (.getfield 23, 3) := by decide +kernel
theorem dX5_spanNow_18 : decode cX5_spanNow 18 = .ok (.iload_n 1, 1) := by decide +kernel
theorem dX5_spanNow_19 : decode cX5_spanNow 19 = .ok (.iaload, 1) := by decide +kernel
theorem dX5_spanNow_20 : decode cX5_spanNow 20 = .ok (.idiv, 1) := by decide +kernel
theorem dX5_spanNow_21 : decode cX5_spanNow 21 = .ok (.goto 4, 3) := by decide +kernel
theorem dX5_spanNow_24 : decode cX5_spanNow 24 = .ok (.iconst 0, 1) := by decide +kernel
theorem dX5_spanNow_25 : decode cX5_spanNow 25 = .ok (.ireturn, 1) := by decide +kernel
set_option maxRecDepth 20000 in
theorem ggX5_firstOf_X5_head : GoodIn wsX5_firstOf wsX5_head := goodIn_r _ [9, 10, 11, 12, 13, 14, 15, 16, 17, 18, 19, 20, 21, 22, 23, 24, 25, 26, 27, 28, 29, 30, 31, 32, 33, 34, 35, 36] (by decide +kernel) (by decide +kernel)
set_option maxRecDepth 20000 in
theorem gX5_firstOf_X5_head : GoodIn wsX5_firstOf (wsV RX5 86 RX5 yX5_head wsX5_head) := goodIn_app (goodIn_of _ (by decide +kernel)) ggX5_firstOf_X5_head
theorem dX5_firstOf_0 : decode cX5_firstOf 0 = .ok (.iconst 0, 1) := by decide +kernel
theorem dX5_firstOf_1 : decode cX5_firstOf 1 = .ok (.istore 4, 2) := by decide +kernel
theorem dX5_firstOf_3 : decode cX5_firstOf 3 = .ok (.iload 4, 2) := by decide +kernel
theorem dX5_firstOf_5 : decode cX5_firstOf 5 = .ok (.aload_n 0, 1) := by decide +kernel
theorem dX5_firstOf_6 : decode cX5_firstOf 6 = .ok (.getfield 100, 3) := by decide +kernel
theorem dX5_firstOf_9 : decode cX5_firstOf 9 = .ok (.if_icmp .ge 49, 3) := by decide +kernel
theorem dX5_firstOf_12 : decode cX5_firstOf 12 = .ok (.aload_n 0, 1) := by decide +kernel
theorem dX5_firstOf_13 : decode cX5_firstOf 13 = .ok (.getfield 41, 3) := by decide +kernel
theorem dX5_firstOf_16 : decode cX5_firstOf 16 = .ok (.iload 4, 2) := by decide +kernel
theorem dX5_firstOf_18 : decode cX5_firstOf 18 = .ok (.iaload, 1) := by decide +kernel
theorem dX5_firstOf_19 : decode cX5_firstOf 19 = .ok (.iload_n 1, 1) := by decide +kernel
theorem dX5_firstOf_20 : decode cX5_firstOf 20 = .ok (.if_icmp .ne 32, 3) := by decide +kernel
theorem dX5_firstOf_23 : decode cX5_firstOf 23 = .ok (.aload_n 0, 1) := by decide +kernel
theorem dX5_firstOf_24 : decode cX5_firstOf 24 = .ok (.getfield 53, 3) := by decide +kernel
theorem dX5_firstOf_27 : decode cX5_firstOf 27 = .ok (.iload 4, 2) := by decide +kernel
theorem dX5_firstOf_29 : decode cX5_firstOf 29 = .ok (.iaload, 1) := by decide +kernel
theorem dX5_firstOf_30 : decode cX5_firstOf 30 = .ok (.iload_n 2, 1) := by decide +kernel
theorem dX5_firstOf_31 : decode cX5_firstOf 31 = .ok (.if_icmp .ne 21, 3) := by decide +kernel
theorem dX5_firstOf_34 : decode cX5_firstOf 34 = .ok (.aload_n 0, 1) := by decide +kernel
theorem dX5_firstOf_35 : decode cX5_firstOf 35 = .ok (.aload_n 0, 1) := by decide +kernel
theorem dX5_firstOf_36 : decode cX5_firstOf 36 = .ok (.getfield 47, 3) := by decide +kernel
theorem dX5_firstOf_39 : decode cX5_firstOf 39 = .ok (.iload 4, 2) := by decide +kernel
theorem dX5_firstOf_41 : decode cX5_firstOf 41 = .ok (.iaload, 1) := by decide +kernel
theorem dX5_firstOf_42 : decode cX5_firstOf 42 = .ok (.invokevirtual 86, 3) := by decide +kernel
theorem dX5_firstOf_45 : decode cX5_firstOf 45 = .ok (.iload_n 3, 1) := by decide +kernel
theorem dX5_firstOf_46 : decode cX5_firstOf 46 = .ok (.if_icmp .ne 6, 3) := by decide +kernel
theorem dX5_firstOf_49 : decode cX5_firstOf 49 = .ok (.iload 4, 2) := by decide +kernel
theorem dX5_firstOf_51 : decode cX5_firstOf 51 = .ok (.ireturn, 1) := by decide +kernel
theorem dX5_firstOf_52 : decode cX5_firstOf 52 = .ok (.iinc 4 1, 3) := by decide +kernel
theorem dX5_firstOf_55 : decode cX5_firstOf 55 = .ok (.goto (-52), 3) := by decide +kernel
theorem dX5_firstOf_58 : decode cX5_firstOf 58 = .ok (.iconst (-1), 1) := by decide +kernel
theorem dX5_firstOf_59 : decode cX5_firstOf 59 = .ok (.ireturn, 1) := by decide +kernel
theorem dX5_find_0 : decode cX5_find 0 = .ok (.iconst 0, 1) := by decide +kernel
theorem dX5_find_1 : decode cX5_find 1 = .ok (.istore_n 3, 1) := by decide +kernel
theorem dX5_find_2 : decode cX5_find 2 = .ok (.iload_n 3, 1) := by decide +kernel
theorem dX5_find_3 : decode cX5_find 3 = .ok (.aload_n 0, 1) := by decide +kernel
theorem dX5_find_4 : decode cX5_find 4 = .ok (.getfield 100, 3) := by decide +kernel
theorem dX5_find_7 : decode cX5_find 7 = .ok (.if_icmp .ge 31, 3) := by decide +kernel
theorem dX5_find_10 : decode cX5_find 10 = .ok (.aload_n 0, 1) := by decide +kernel
theorem dX5_find_11 : decode cX5_find 11 = .ok (.getfield 41, 3) := by decide +kernel
theorem dX5_find_14 : decode cX5_find 14 = .ok (.iload_n 3, 1) := by decide +kernel
theorem dX5_find_15 : decode cX5_find 15 = .ok (.iaload, 1) := by decide +kernel
theorem dX5_find_16 : decode cX5_find 16 = .ok (.iload_n 1, 1) := by decide +kernel
theorem dX5_find_17 : decode cX5_find 17 = .ok (.if_icmp .ne 15, 3) := by decide +kernel
theorem dX5_find_20 : decode cX5_find 20 = .ok (.aload_n 0, 1) := by decide +kernel
theorem dX5_find_21 : decode cX5_find 21 = .ok (.getfield 44, 3) := by decide +kernel
theorem dX5_find_24 : decode cX5_find 24 = .ok (.iload_n 3, 1) := by decide +kernel
theorem dX5_find_25 : decode cX5_find 25 = .ok (.iaload, 1) := by decide +kernel
theorem dX5_find_26 : decode cX5_find 26 = .ok (.iload_n 2, 1) := by decide +kernel
theorem dX5_find_27 : decode cX5_find 27 = .ok (.if_icmp .ne 5, 3) := by decide +kernel
theorem dX5_find_30 : decode cX5_find 30 = .ok (.iload_n 3, 1) := by decide +kernel
theorem dX5_find_31 : decode cX5_find 31 = .ok (.ireturn, 1) := by decide +kernel
theorem dX5_find_32 : decode cX5_find 32 = .ok (.iinc 3 1, 3) := by decide +kernel
theorem dX5_find_35 : decode cX5_find 35 = .ok (.goto (-33), 3) := by decide +kernel
theorem dX5_find_38 : decode cX5_find 38 = .ok (.iconst (-1), 1) := by decide +kernel
theorem dX5_find_39 : decode cX5_find 39 = .ok (.ireturn, 1) := by decide +kernel
set_option maxRecDepth 20000 in
theorem ggX5_namesOf_X5_head : GoodIn wsX5_namesOf wsX5_head := goodIn_r _ [15, 16, 26, 27, 28, 29, 30, 31, 32, 33, 34, 35, 36, 37, 38, 39, 40, 41, 42, 43, 44, 45, 46, 47, 48, 49, 50, 51] (by decide +kernel) (by decide +kernel)
set_option maxRecDepth 20000 in
theorem gX5_namesOf_X5_head : GoodIn wsX5_namesOf (wsV RX5 86 RX5 yX5_head wsX5_head) := goodIn_app (goodIn_of _ (by decide +kernel)) ggX5_namesOf_X5_head
set_option maxRecDepth 20000 in
theorem ggX5_namesOf_X5_spanNow : GoodIn wsX5_namesOf wsX5_spanNow := goodIn_r _ [20, 1, 9, 21, 26, 27, 28, 29, 30, 31, 32, 33, 34, 35, 36, 37, 38, 39, 40, 41, 42, 43, 44, 45, 46, 47, 48, 49, 50, 51] (by decide +kernel) (by decide +kernel)
set_option maxRecDepth 20000 in
theorem gX5_namesOf_X5_spanNow : GoodIn wsX5_namesOf (wsV RX5 103 RX5 yX5_spanNow wsX5_spanNow) := goodIn_app (goodIn_of _ (by decide +kernel)) ggX5_namesOf_X5_spanNow
set_option maxRecDepth 20000 in
theorem ggX5_namesOf_X5_firstOf : GoodIn wsX5_namesOf wsX5_firstOf := goodIn_r _ [25, 2, 4, 10, 7, 11, 12, 13, 14, 15, 16, 26, 27, 28, 29, 30, 31, 32, 33, 34, 35, 36, 37, 38, 39, 40, 41, 42, 43, 44, 45, 46, 47, 48, 49, 50, 51] (by decide +kernel) (by decide +kernel)
set_option maxRecDepth 20000 in
theorem gX5_namesOf_X5_firstOf : GoodIn wsX5_namesOf (wsV RX5 106 RX5 yX5_firstOf wsX5_firstOf) := goodIn_app (goodIn_of _ (by decide +kernel)) ggX5_namesOf_X5_firstOf
theorem dX5_namesOf_0 : decode cX5_namesOf 0 = .ok (.aload_n 0, 1) := by decide +kernel
theorem dX5_namesOf_1 : decode cX5_namesOf 1 = .ok (.iload_n 2, 1) := by decide +kernel
theorem dX5_namesOf_2 : decode cX5_namesOf 2 = .ok (.invokevirtual 86, 3) := by decide +kernel
theorem dX5_namesOf_5 : decode cX5_namesOf 5 = .ok (.istore_n 3, 1) := by decide +kernel
theorem dX5_namesOf_6 : decode cX5_namesOf 6 = .ok (.aload_n 0, 1) := by decide +kernel
theorem dX5_namesOf_7 : decode cX5_namesOf 7 = .ok (.getfield 20, 3) := by decide +kernel
theorem dX5_namesOf_10 : decode cX5_namesOf 10 = .ok (.iload_n 1, 1) := by decide +kernel
theorem dX5_namesOf_11 : decode cX5_namesOf 11 = .ok (.iaload, 1) := by decide +kernel
theorem dX5_namesOf_12 : decode cX5_namesOf 12 = .ok (.iconst 2, 1) := by decide +kernel
theorem dX5_namesOf_13 : decode cX5_namesOf 13 = .ok (.if_icmp .ne 7, 3) := by decide +kernel
theorem dX5_namesOf_16 : decode cX5_namesOf 16 = .ok (.iconst (-1), 1) := by decide +kernel
theorem dX5_namesOf_17 : decode cX5_namesOf 17 = .ok (.goto 14, 3) := by decide +kernel
theorem dX5_namesOf_20 : decode cX5_namesOf 20 = .ok (.aload_n 0, 1) := by decide +kernel
theorem dX5_namesOf_21 : decode cX5_namesOf 21 = .ok (.iload_n 1, 1) := by decide +kernel
theorem dX5_namesOf_22 : decode cX5_namesOf 22 = .ok (.aload_n 0, 1) := by decide +kernel
theorem dX5_namesOf_23 : decode cX5_namesOf 23 = .ok (.iload_n 1, 1) := by decide +kernel
theorem dX5_namesOf_24 : decode cX5_namesOf 24 = .ok (.invokevirtual 103, 3) := by decide +kernel
theorem dX5_namesOf_27 : decode cX5_namesOf 27 = .ok (.iload_n 3, 1) := by decide +kernel
theorem dX5_namesOf_28 : decode cX5_namesOf 28 = .ok (.invokevirtual 106, 3) := by decide +kernel
theorem dX5_namesOf_31 : decode cX5_namesOf 31 = .ok (.istore 4, 2) := by decide +kernel
theorem dX5_namesOf_33 : decode cX5_namesOf 33 = .ok (.iload 4, 2) := by decide +kernel
theorem dX5_namesOf_35 : decode cX5_namesOf 35 = .ok (.iconst (-1), 1) := by decide +kernel
theorem dX5_namesOf_36 : decode cX5_namesOf 36 = .ok (.if_icmp .eq 6, 3) := by decide +kernel
theorem dX5_namesOf_39 : decode cX5_namesOf 39 = .ok (.iload 4, 2) := by decide +kernel
theorem dX5_namesOf_41 : decode cX5_namesOf 41 = .ok (.ireturn, 1) := by decide +kernel
theorem dX5_namesOf_42 : decode cX5_namesOf 42 = .ok (.aload_n 0, 1) := by decide +kernel
theorem dX5_namesOf_43 : decode cX5_namesOf 43 = .ok (.getfield 100, 3) := by decide +kernel
theorem dX5_namesOf_46 : decode cX5_namesOf 46 = .ok (.sipush 200, 3) := by decide +kernel
theorem dX5_namesOf_49 : decode cX5_namesOf 49 = .ok (.if_icmp .ne 5, 3) := by decide +kernel
theorem dX5_namesOf_52 : decode cX5_namesOf 52 = .ok (.iconst (-1), 1) := by decide +kernel
theorem dX5_namesOf_53 : decode cX5_namesOf 53 = .ok (.ireturn, 1) := by decide +kernel
theorem dX5_namesOf_54 : decode cX5_namesOf 54 = .ok (.aload_n 0, 1) := by decide +kernel
theorem dX5_namesOf_55 : decode cX5_namesOf 55 = .ok (.getfield 35, 3) := by decide +kernel
theorem dX5_namesOf_58 : decode cX5_namesOf 58 = .ok (.iload_n 1, 1) := by decide +kernel
theorem dX5_namesOf_59 : decode cX5_namesOf 59 = .ok (.aload_n 0, 1) := by decide +kernel
theorem dX5_namesOf_60 : decode cX5_namesOf 60 = .ok (.getfield 35, 3) := by decide +kernel
theorem dX5_namesOf_63 : decode cX5_namesOf 63 = .ok (.iload_n 1, 1) := by decide +kernel
theorem dX5_namesOf_64 : decode cX5_namesOf 64 = .ok (.iaload, 1) := by decide +kernel
theorem dX5_namesOf_65 : decode cX5_namesOf 65 = .ok (.iconst 1, 1) := by decide +kernel
theorem dX5_namesOf_66 : decode cX5_namesOf 66 = .ok (.iadd, 1) := by decide +kernel
theorem dX5_namesOf_67 : decode cX5_namesOf 67 = .ok (.iastore, 1) := by decide +kernel
theorem dX5_namesOf_68 : decode cX5_namesOf 68 = .ok (.aload_n 0, 1) := by decide +kernel
theorem dX5_namesOf_69 : decode cX5_namesOf 69 = .ok (.getfield 41, 3) := by decide +kernel
theorem dX5_namesOf_72 : decode cX5_namesOf 72 = .ok (.aload_n 0, 1) := by decide +kernel
theorem dX5_namesOf_73 : decode cX5_namesOf 73 = .ok (.getfield 100, 3) := by decide +kernel
theorem dX5_namesOf_76 : decode cX5_namesOf 76 = .ok (.iload_n 1, 1) := by decide +kernel
theorem dX5_namesOf_77 : decode cX5_namesOf 77 = .ok (.iastore, 1) := by decide +kernel
theorem dX5_namesOf_78 : decode cX5_namesOf 78 = .ok (.aload_n 0, 1) := by decide +kernel
theorem dX5_namesOf_79 : decode cX5_namesOf 79 = .ok (.getfield 44, 3) := by decide +kernel
theorem dX5_namesOf_82 : decode cX5_namesOf 82 = .ok (.aload_n 0, 1) := by decide +kernel
theorem dX5_namesOf_83 : decode cX5_namesOf 83 = .ok (.getfield 100, 3) := by decide +kernel
theorem dX5_namesOf_86 : decode cX5_namesOf 86 = .ok (.aload_n 0, 1) := by decide +kernel
theorem dX5_namesOf_87 : decode cX5_namesOf 87 = .ok (.getfield 26, 3) := by decide +kernel
theorem dX5_namesOf_90 : decode cX5_namesOf 90 = .ok (.iload_n 1, 1) := by decide +kernel
theorem dX5_namesOf_91 : decode cX5_namesOf 91 = .ok (.iaload, 1) := by decide +kernel
theorem dX5_namesOf_92 : decode cX5_namesOf 92 = .ok (.aload_n 0, 1) := by decide +kernel
theorem dX5_namesOf_93 : decode cX5_namesOf 93 = .ok (.getfield 35, 3) := by decide +kernel
theorem dX5_namesOf_96 : decode cX5_namesOf 96 = .ok (.iload_n 1, 1) := by decide +kernel
theorem dX5_namesOf_97 : decode cX5_namesOf 97 = .ok (.iaload, 1) := by decide +kernel
theorem dX5_namesOf_98 : decode cX5_namesOf 98 = .ok (.imul, 1) := by decide +kernel
theorem dX5_namesOf_99 : decode cX5_namesOf 99 = .ok (.sipush 9973, 3) := by decide +kernel
theorem dX5_namesOf_102 : decode cX5_namesOf 102 = .ok (.irem, 1) := by decide +kernel
theorem dX5_namesOf_103 : decode cX5_namesOf 103 = .ok (.iastore, 1) := by decide +kernel
theorem dX5_namesOf_104 : decode cX5_namesOf 104 = .ok (.aload_n 0, 1) := by decide +kernel
theorem dX5_namesOf_105 : decode cX5_namesOf 105 = .ok (.getfield 47, 3) := by decide +kernel
theorem dX5_namesOf_108 : decode cX5_namesOf 108 = .ok (.aload_n 0, 1) := by decide +kernel
theorem dX5_namesOf_109 : decode cX5_namesOf 109 = .ok (.getfield 100, 3) := by decide +kernel
theorem dX5_namesOf_112 : decode cX5_namesOf 112 = .ok (.iload_n 3, 1) := by decide +kernel
theorem dX5_namesOf_113 : decode cX5_namesOf 113 = .ok (.iastore, 1) := by decide +kernel
theorem dX5_namesOf_114 : decode cX5_namesOf 114 = .ok (.aload_n 0, 1) := by decide +kernel
theorem dX5_namesOf_115 : decode cX5_namesOf 115 = .ok (.getfield 50, 3) := by decide +kernel
theorem dX5_namesOf_118 : decode cX5_namesOf 118 = .ok (.aload_n 0, 1) := by decide +kernel
theorem dX5_namesOf_119 : decode cX5_namesOf 119 = .ok (.getfield 100, 3) := by decide +kernel
theorem dX5_namesOf_122 : decode cX5_namesOf 122 = .ok (.aload_n 0, 1) := by decide +kernel
theorem dX5_namesOf_123 : decode cX5_namesOf 123 = .ok (.getfield 94, 3) := by decide +kernel
theorem dX5_namesOf_126 : decode cX5_namesOf 126 = .ok (.iastore, 1) := by decide +kernel
theorem dX5_namesOf_127 : decode cX5_namesOf 127 = .ok (.aload_n 0, 1) := by decide +kernel
theorem dX5_namesOf_128 : decode cX5_namesOf 128 = .ok (.getfield 53, 3) := by decide +kernel
theorem dX5_namesOf_131 : decode cX5_namesOf 131 = .ok (.aload_n 0, 1) := by decide +kernel
theorem dX5_namesOf_132 : decode cX5_namesOf 132 = .ok (.getfield 100, 3) := by decide +kernel
theorem dX5_namesOf_135 : decode cX5_namesOf 135 = .ok (.aload_n 0, 1) := by decide +kernel
theorem dX5_namesOf_136 : decode cX5_namesOf 136 = .ok (.getfield 20, 3) := by decide +kernel
theorem dX5_namesOf_139 : decode cX5_namesOf 139 = .ok (.iload_n 1, 1) := by decide +kernel
theorem dX5_namesOf_140 : decode cX5_namesOf 140 = .ok (.iaload, 1) := by decide +kernel
theorem dX5_namesOf_141 : decode cX5_namesOf 141 = .ok (.iconst 2, 1) := by decide +kernel
theorem dX5_namesOf_142 : decode cX5_namesOf 142 = .ok (.if_icmp .ne 12, 3) := by decide +kernel
theorem dX5_namesOf_145 : decode cX5_namesOf 145 = .ok (.aload_n 0, 1) := by decide +kernel
theorem dX5_namesOf_146 : decode cX5_namesOf 146 = .ok (.getfield 35, 3) := by decide +kernel
theorem dX5_namesOf_149 : decode cX5_namesOf 149 = .ok (.iload_n 1, 1) := by decide +kernel
theorem dX5_namesOf_150 : decode cX5_namesOf 150 = .ok (.iaload, 1) := by decide +kernel
theorem dX5_namesOf_151 : decode cX5_namesOf 151 = .ok (.goto 8, 3) := by decide +kernel
theorem dX5_namesOf_154 : decode cX5_namesOf 154 = .ok (.aload_n 0, 1) := by decide +kernel
theorem dX5_namesOf_155 : decode cX5_namesOf 155 = .ok (.iload_n 1, 1) := by decide +kernel
theorem dX5_namesOf_156 : decode cX5_namesOf 156 = .ok (.invokevirtual 103, 3) := by decide +kernel
theorem dX5_namesOf_159 : decode cX5_namesOf 159 = .ok (.iastore, 1) := by decide +kernel
theorem dX5_namesOf_160 : decode cX5_namesOf 160 = .ok (.aload_n 0, 1) := by decide +kernel
theorem dX5_namesOf_161 : decode cX5_namesOf 161 = .ok (.aload_n 0, 1) := by decide +kernel
theorem dX5_namesOf_162 : decode cX5_namesOf 162 = .ok (.getfield 100, 3) := by decide +kernel
theorem dX5_namesOf_165 : decode cX5_namesOf 165 = .ok (.iconst 1, 1) := by decide +kernel
theorem dX5_namesOf_166 : decode cX5_namesOf 166 = .ok (.iadd, 1) := by decide +kernel
theorem dX5_namesOf_167 : decode cX5_namesOf 167 = .ok (.putfield 100, 3) := by decide +kernel
theorem dX5_namesOf_170 : decode cX5_namesOf 170 = .ok (.aload_n 0, 1) := by decide +kernel
theorem dX5_namesOf_171 : decode cX5_namesOf 171 = .ok (.getfield 100, 3) := by decide +kernel
theorem dX5_namesOf_174 : decode cX5_namesOf 174 = .ok (.iconst 1, 1) := by decide +kernel
theorem dX5_namesOf_175 : decode cX5_namesOf 175 = .ok (.isub, 1) := by decide +kernel
theorem dX5_namesOf_176 : decode cX5_namesOf 176 = .ok (.ireturn, 1) := by decide +kernel
set_option maxRecDepth 20000 in
theorem ggX5_name_X5_isHouse : GoodIn wsX5_name wsX5_isHouse := goodIn_r _ [7, 8, 41, 42, 43, 44, 45, 46, 47, 48, 49, 50, 51, 52, 53, 54, 55, 56, 57, 58, 59, 60, 61, 62, 63, 64, 65, 66] (by decide +kernel) (by decide +kernel)
set_option maxRecDepth 20000 in
theorem gX5_name_X5_isHouse : GoodIn wsX5_name (wsV RX5 110 RX5 yX5_isHouse wsX5_isHouse) := goodIn_app (goodIn_of _ (by decide +kernel)) ggX5_name_X5_isHouse
set_option maxRecDepth 20000 in
theorem ggX5_name_X5_isPerson : GoodIn wsX5_name wsX5_isPerson := goodIn_r _ [12, 13, 41, 42, 43, 44, 45, 46, 47, 48, 49, 50, 51, 52, 53, 54, 55, 56, 57, 58, 59, 60, 61, 62, 63, 64, 65, 66] (by decide +kernel) (by decide +kernel)
set_option maxRecDepth 20000 in
theorem gX5_name_X5_isPerson : GoodIn wsX5_name (wsV RX5 79 RX5 yX5_isPerson wsX5_isPerson) := goodIn_app (goodIn_of _ (by decide +kernel)) ggX5_name_X5_isPerson
set_option maxRecDepth 20000 in
theorem ggX5_name_X5_namesOf : GoodIn wsX5_name wsX5_namesOf := goodIn_r _ [17, 18, 19, 20, 21, 2, 22, 23, 24, 25, 26, 27, 28, 29, 6, 30, 31, 32, 33, 34, 35, 36, 37, 38, 39, 40, 41, 42, 43, 44, 45, 46, 47, 48, 49, 50, 51, 52, 53, 54, 55, 56, 57, 58, 59, 60, 61, 62, 63, 64, 65, 66] (by decide +kernel) (by decide +kernel)
set_option maxRecDepth 20000 in
theorem gX5_name_X5_namesOf : GoodIn wsX5_name (wsV RX5 113 RX5 yX5_namesOf wsX5_namesOf) := goodIn_app (goodIn_of _ (by decide +kernel)) ggX5_name_X5_namesOf
theorem dX5_name_0 : decode cX5_name 0 = .ok (.aload_n 0, 1) := by decide +kernel
theorem dX5_name_1 : decode cX5_name 1 = .ok (.iload_n 1, 1) := by decide +kernel
theorem dX5_name_2 : decode cX5_name 2 = .ok (.invokevirtual 110, 3) := by decide +kernel
theorem dX5_name_5 : decode cX5_name 5 = .ok (.ifCond .eq 20, 3) := by decide +kernel
theorem dX5_name_8 : decode cX5_name 8 = .ok (.aload_n 0, 1) := by decide +kernel
theorem dX5_name_9 : decode cX5_name 9 = .ok (.iload_n 2, 1) := by decide +kernel
theorem dX5_name_10 : decode cX5_name 10 = .ok (.invokevirtual 79, 3) := by decide +kernel
theorem dX5_name_13 : decode cX5_name 13 = .ok (.ifCond .eq 12, 3) := by decide +kernel
theorem dX5_name_16 : decode cX5_name 16 = .ok (.aload_n 0, 1) := by decide +kernel
theorem dX5_name_17 : decode cX5_name 17 = .ok (.getfield 16, 3) := by decide +kernel
theorem dX5_name_20 : decode cX5_name 20 = .ok (.iload_n 2, 1) := by decide +kernel
theorem dX5_name_21 : decode cX5_name 21 = .ok (.baload, 1) := by decide +kernel
theorem dX5_name_22 : decode cX5_name 22 = .ok (.ifCond .eq 5, 3) := by decide +kernel
theorem dX5_name_25 : decode cX5_name 25 = .ok (.iconst (-1), 1) := by decide +kernel
theorem dX5_name_26 : decode cX5_name 26 = .ok (.ireturn, 1) := by decide +kernel
theorem dX5_name_27 : decode cX5_name 27 = .ok (.aload_n 0, 1) := by decide +kernel
theorem dX5_name_28 : decode cX5_name 28 = .ok (.iload_n 1, 1) := by decide +kernel
theorem dX5_name_29 : decode cX5_name 29 = .ok (.iload_n 2, 1) := by decide +kernel
theorem dX5_name_30 : decode cX5_name 30 = .ok (.invokevirtual 113, 3) := by decide +kernel
theorem dX5_name_33 : decode cX5_name 33 = .ok (.istore_n 3, 1) := by decide +kernel
theorem dX5_name_34 : decode cX5_name 34 = .ok (.iload_n 3, 1) := by decide +kernel
theorem dX5_name_35 : decode cX5_name 35 = .ok (.iconst (-1), 1) := by decide +kernel
theorem dX5_name_36 : decode cX5_name 36 = .ok (.if_icmp .ne 7, 3) := by decide +kernel
theorem dX5_name_39 : decode cX5_name 39 = .ok (.iconst (-1), 1) := by decide +kernel
theorem dX5_name_40 : decode cX5_name 40 = .ok (.goto 9, 3) := by decide +kernel
theorem dX5_name_43 : decode cX5_name 43 = .ok (.aload_n 0, 1) := by decide +kernel
theorem dX5_name_44 : decode cX5_name 44 = .ok (.getfield 44, 3) := by decide +kernel
theorem dX5_name_47 : decode cX5_name 47 = .ok (.iload_n 3, 1) := by decide +kernel
theorem dX5_name_48 : decode cX5_name 48 = .ok (.iaload, 1) := by decide +kernel
theorem dX5_name_49 : decode cX5_name 49 = .ok (.ireturn, 1) := by decide +kernel
set_option maxRecDepth 20000 in
theorem ggX5_leads_X5_isHouse : GoodIn wsX5_leads wsX5_isHouse := goodIn_r _ [9, 10, 26, 27, 28, 29, 30, 31, 32, 33, 34, 35, 36, 37, 38, 39, 40, 41, 42, 43, 44, 45, 46, 47, 48, 49, 50, 51] (by decide +kernel) (by decide +kernel)
set_option maxRecDepth 20000 in
theorem gX5_leads_X5_isHouse : GoodIn wsX5_leads (wsV RX5 110 RX5 yX5_isHouse wsX5_isHouse) := goodIn_app (goodIn_of _ (by decide +kernel)) ggX5_leads_X5_isHouse
set_option maxRecDepth 20000 in
theorem ggX5_leads_X5_find : GoodIn wsX5_leads wsX5_find := goodIn_r _ [14, 15, 16, 2, 26, 27, 28, 29, 30, 31, 32, 33, 34, 35, 36, 37, 38, 39, 40, 41, 42, 43, 44, 45, 46, 47, 48, 49, 50, 51] (by decide +kernel) (by decide +kernel)
set_option maxRecDepth 20000 in
theorem gX5_leads_X5_find : GoodIn wsX5_leads (wsV RX5 117 RX5 yX5_find wsX5_find) := goodIn_app (goodIn_of _ (by decide +kernel)) ggX5_leads_X5_find
set_option maxRecDepth 20000 in
theorem ggX5_leads_X5_head : GoodIn wsX5_leads wsX5_head := goodIn_r _ [20, 21, 26, 27, 28, 29, 30, 31, 32, 33, 34, 35, 36, 37, 38, 39, 40, 41, 42, 43, 44, 45, 46, 47, 48, 49, 50, 51] (by decide +kernel) (by decide +kernel)
set_option maxRecDepth 20000 in
theorem gX5_leads_X5_head : GoodIn wsX5_leads (wsV RX5 86 RX5 yX5_head wsX5_head) := goodIn_app (goodIn_of _ (by decide +kernel)) ggX5_leads_X5_head
set_option maxRecDepth 20000 in
theorem ggX5_leads_X5_firstOf : GoodIn wsX5_leads wsX5_firstOf := goodIn_r _ [25, 15, 16, 3, 4, 17, 18, 19, 8, 20, 21, 26, 27, 28, 29, 30, 31, 32, 33, 34, 35, 36, 37, 38, 39, 40, 41, 42, 43, 44, 45, 46, 47, 48, 49, 50, 51] (by decide +kernel) (by decide +kernel)
set_option maxRecDepth 20000 in
theorem gX5_leads_X5_firstOf : GoodIn wsX5_leads (wsV RX5 106 RX5 yX5_firstOf wsX5_firstOf) := goodIn_app (goodIn_of _ (by decide +kernel)) ggX5_leads_X5_firstOf
theorem dX5_leads_0 : decode cX5_leads 0 = .ok (.aload_n 0, 1) := by decide +kernel
theorem dX5_leads_1 : decode cX5_leads 1 = .ok (.iload_n 1, 1) := by decide +kernel
theorem dX5_leads_2 : decode cX5_leads 2 = .ok (.invokevirtual 110, 3) := by decide +kernel
theorem dX5_leads_5 : decode cX5_leads 5 = .ok (.ifCond .ne 5, 3) := by decide +kernel
theorem dX5_leads_8 : decode cX5_leads 8 = .ok (.iconst (-1), 1) := by decide +kernel
theorem dX5_leads_9 : decode cX5_leads 9 = .ok (.ireturn, 1) := by decide +kernel
theorem dX5_leads_10 : decode cX5_leads 10 = .ok (.aload_n 0, 1) := by decide +kernel
theorem dX5_leads_11 : decode cX5_leads 11 = .ok (.iload_n 1, 1) := by decide +kernel
theorem dX5_leads_12 : decode cX5_leads 12 = .ok (.iload_n 2, 1) := by decide +kernel
theorem dX5_leads_13 : decode cX5_leads 13 = .ok (.invokevirtual 117, 3) := by decide +kernel
theorem dX5_leads_16 : decode cX5_leads 16 = .ok (.istore_n 3, 1) := by decide +kernel
theorem dX5_leads_17 : decode cX5_leads 17 = .ok (.iload_n 3, 1) := by decide +kernel
theorem dX5_leads_18 : decode cX5_leads 18 = .ok (.iconst (-1), 1) := by decide +kernel
theorem dX5_leads_19 : decode cX5_leads 19 = .ok (.if_icmp .ne 5, 3) := by decide +kernel
theorem dX5_leads_22 : decode cX5_leads 22 = .ok (.iconst (-1), 1) := by decide +kernel
theorem dX5_leads_23 : decode cX5_leads 23 = .ok (.ireturn, 1) := by decide +kernel
theorem dX5_leads_24 : decode cX5_leads 24 = .ok (.aload_n 0, 1) := by decide +kernel
theorem dX5_leads_25 : decode cX5_leads 25 = .ok (.getfield 20, 3) := by decide +kernel
theorem dX5_leads_28 : decode cX5_leads 28 = .ok (.iload_n 1, 1) := by decide +kernel
theorem dX5_leads_29 : decode cX5_leads 29 = .ok (.iaload, 1) := by decide +kernel
theorem dX5_leads_30 : decode cX5_leads 30 = .ok (.iconst 2, 1) := by decide +kernel
theorem dX5_leads_31 : decode cX5_leads 31 = .ok (.if_icmp .ne 7, 3) := by decide +kernel
theorem dX5_leads_34 : decode cX5_leads 34 = .ok (.iload_n 2, 1) := by decide +kernel
theorem dX5_leads_35 : decode cX5_leads 35 = .ok (.goto 29, 3) := by decide +kernel
theorem dX5_leads_38 : decode cX5_leads 38 = .ok (.aload_n 0, 1) := by decide +kernel
theorem dX5_leads_39 : decode cX5_leads 39 = .ok (.getfield 44, 3) := by decide +kernel
theorem dX5_leads_42 : decode cX5_leads 42 = .ok (.aload_n 0, 1) := by decide +kernel
theorem dX5_leads_43 : decode cX5_leads 43 = .ok (.iload_n 1, 1) := by decide +kernel
theorem dX5_leads_44 : decode cX5_leads 44 = .ok (.aload_n 0, 1) := by decide +kernel
theorem dX5_leads_45 : decode cX5_leads 45 = .ok (.getfield 53, 3) := by decide +kernel
theorem dX5_leads_48 : decode cX5_leads 48 = .ok (.iload_n 3, 1) := by decide +kernel
theorem dX5_leads_49 : decode cX5_leads 49 = .ok (.iaload, 1) := by decide +kernel
theorem dX5_leads_50 : decode cX5_leads 50 = .ok (.aload_n 0, 1) := by decide +kernel
theorem dX5_leads_51 : decode cX5_leads 51 = .ok (.aload_n 0, 1) := by decide +kernel
theorem dX5_leads_52 : decode cX5_leads 52 = .ok (.getfield 47, 3) := by decide +kernel
theorem dX5_leads_55 : decode cX5_leads 55 = .ok (.iload_n 3, 1) := by decide +kernel
theorem dX5_leads_56 : decode cX5_leads 56 = .ok (.iaload, 1) := by decide +kernel
theorem dX5_leads_57 : decode cX5_leads 57 = .ok (.invokevirtual 86, 3) := by decide +kernel
theorem dX5_leads_60 : decode cX5_leads 60 = .ok (.invokevirtual 106, 3) := by decide +kernel
theorem dX5_leads_63 : decode cX5_leads 63 = .ok (.iaload, 1) := by decide +kernel
theorem dX5_leads_64 : decode cX5_leads 64 = .ok (.ireturn, 1) := by decide +kernel
set_option maxRecDepth 20000 in
theorem ggX5_bridge_X5_isHouse : GoodIn wsX5_bridge wsX5_isHouse := goodIn_r _ [10, 11, 12, 13, 14, 15, 16, 17, 18, 19, 20, 21, 22, 23, 24, 25, 26, 27, 28, 29, 30, 31, 32, 33, 34, 35, 36, 37] (by decide +kernel) (by decide +kernel)
set_option maxRecDepth 20000 in
theorem gX5_bridge_X5_isHouse : GoodIn wsX5_bridge (wsV RX5 110 RX5 yX5_isHouse wsX5_isHouse) := goodIn_app (goodIn_of _ (by decide +kernel)) ggX5_bridge_X5_isHouse
theorem dX5_bridge_0 : decode cX5_bridge 0 = .ok (.aload_n 0, 1) := by decide +kernel
theorem dX5_bridge_1 : decode cX5_bridge 1 = .ok (.iload_n 1, 1) := by decide +kernel
theorem dX5_bridge_2 : decode cX5_bridge 2 = .ok (.invokevirtual 110, 3) := by decide +kernel
theorem dX5_bridge_5 : decode cX5_bridge 5 = .ok (.ifCond .eq 43, 3) := by decide +kernel
theorem dX5_bridge_8 : decode cX5_bridge 8 = .ok (.aload_n 0, 1) := by decide +kernel
theorem dX5_bridge_9 : decode cX5_bridge 9 = .ok (.iload_n 2, 1) := by decide +kernel
theorem dX5_bridge_10 : decode cX5_bridge 10 = .ok (.invokevirtual 110, 3) := by decide +kernel
theorem dX5_bridge_13 : decode cX5_bridge 13 = .ok (.ifCond .eq 35, 3) := by decide +kernel
theorem dX5_bridge_16 : decode cX5_bridge 16 = .ok (.iload_n 1, 1) := by decide +kernel
theorem dX5_bridge_17 : decode cX5_bridge 17 = .ok (.iload_n 2, 1) := by decide +kernel
theorem dX5_bridge_18 : decode cX5_bridge 18 = .ok (.if_icmp .eq 30, 3) := by decide +kernel
theorem dX5_bridge_21 : decode cX5_bridge 21 = .ok (.iload_n 3, 1) := by decide +kernel
theorem dX5_bridge_22 : decode cX5_bridge 22 = .ok (.ifCond .lt 26, 3) := by decide +kernel
theorem dX5_bridge_25 : decode cX5_bridge 25 = .ok (.iload_n 3, 1) := by decide +kernel
theorem dX5_bridge_26 : decode cX5_bridge 26 = .ok (.iload 4, 2) := by decide +kernel
theorem dX5_bridge_28 : decode cX5_bridge 28 = .ok (.if_icmp .gt 20, 3) := by decide +kernel
theorem dX5_bridge_31 : decode cX5_bridge 31 = .ok (.iload 4, 2) := by decide +kernel
theorem dX5_bridge_33 : decode cX5_bridge 33 = .ok (.sipush 3000, 3) := by decide +kernel
theorem dX5_bridge_36 : decode cX5_bridge 36 = .ok (.if_icmp .gt 12, 3) := by decide +kernel
theorem dX5_bridge_39 : decode cX5_bridge 39 = .ok (.aload_n 0, 1) := by decide +kernel
theorem dX5_bridge_40 : decode cX5_bridge 40 = .ok (.getfield 120, 3) := by decide +kernel
theorem dX5_bridge_43 : decode cX5_bridge 43 = .ok (.bipush 20, 2) := by decide +kernel
theorem dX5_bridge_45 : decode cX5_bridge 45 = .ok (.if_icmp .ne 5, 3) := by decide +kernel
theorem dX5_bridge_48 : decode cX5_bridge 48 = .ok (.iconst 0, 1) := by decide +kernel
theorem dX5_bridge_49 : decode cX5_bridge 49 = .ok (.ireturn, 1) := by decide +kernel
theorem dX5_bridge_50 : decode cX5_bridge 50 = .ok (.aload_n 0, 1) := by decide +kernel
theorem dX5_bridge_51 : decode cX5_bridge 51 = .ok (.getfield 56, 3) := by decide +kernel
theorem dX5_bridge_54 : decode cX5_bridge 54 = .ok (.aload_n 0, 1) := by decide +kernel
theorem dX5_bridge_55 : decode cX5_bridge 55 = .ok (.getfield 120, 3) := by decide +kernel
theorem dX5_bridge_58 : decode cX5_bridge 58 = .ok (.iload_n 1, 1) := by decide +kernel
theorem dX5_bridge_59 : decode cX5_bridge 59 = .ok (.iastore, 1) := by decide +kernel
theorem dX5_bridge_60 : decode cX5_bridge 60 = .ok (.aload_n 0, 1) := by decide +kernel
theorem dX5_bridge_61 : decode cX5_bridge 61 = .ok (.getfield 59, 3) := by decide +kernel
theorem dX5_bridge_64 : decode cX5_bridge 64 = .ok (.aload_n 0, 1) := by decide +kernel
theorem dX5_bridge_65 : decode cX5_bridge 65 = .ok (.getfield 120, 3) := by decide +kernel
theorem dX5_bridge_68 : decode cX5_bridge 68 = .ok (.iload_n 2, 1) := by decide +kernel
theorem dX5_bridge_69 : decode cX5_bridge 69 = .ok (.iastore, 1) := by decide +kernel
theorem dX5_bridge_70 : decode cX5_bridge 70 = .ok (.aload_n 0, 1) := by decide +kernel
theorem dX5_bridge_71 : decode cX5_bridge 71 = .ok (.getfield 62, 3) := by decide +kernel
theorem dX5_bridge_74 : decode cX5_bridge 74 = .ok (.aload_n 0, 1) := by decide +kernel
theorem dX5_bridge_75 : decode cX5_bridge 75 = .ok (.getfield 120, 3) := by decide +kernel
theorem dX5_bridge_78 : decode cX5_bridge 78 = .ok (.iload_n 3, 1) := by decide +kernel
theorem dX5_bridge_79 : decode cX5_bridge 79 = .ok (.iastore, 1) := by decide +kernel
theorem dX5_bridge_80 : decode cX5_bridge 80 = .ok (.aload_n 0, 1) := by decide +kernel
theorem dX5_bridge_81 : decode cX5_bridge 81 = .ok (.getfield 65, 3) := by decide +kernel
theorem dX5_bridge_84 : decode cX5_bridge 84 = .ok (.aload_n 0, 1) := by decide +kernel
theorem dX5_bridge_85 : decode cX5_bridge 85 = .ok (.getfield 120, 3) := by decide +kernel
theorem dX5_bridge_88 : decode cX5_bridge 88 = .ok (.iload 4, 2) := by decide +kernel
theorem dX5_bridge_90 : decode cX5_bridge 90 = .ok (.iastore, 1) := by decide +kernel
theorem dX5_bridge_91 : decode cX5_bridge 91 = .ok (.aload_n 0, 1) := by decide +kernel
theorem dX5_bridge_92 : decode cX5_bridge 92 = .ok (.aload_n 0, 1) := by decide +kernel
theorem dX5_bridge_93 : decode cX5_bridge 93 = .ok (.getfield 120, 3) := by decide +kernel
theorem dX5_bridge_96 : decode cX5_bridge 96 = .ok (.iconst 1, 1) := by decide +kernel
theorem dX5_bridge_97 : decode cX5_bridge 97 = .ok (.iadd, 1) := by decide +kernel
theorem dX5_bridge_98 : decode cX5_bridge 98 = .ok (.putfield 120, 3) := by decide +kernel
theorem dX5_bridge_101 : decode cX5_bridge 101 = .ok (.iconst 1, 1) := by decide +kernel
theorem dX5_bridge_102 : decode cX5_bridge 102 = .ok (.ireturn, 1) := by decide +kernel
theorem dX5_isHeld_0 : decode cX5_isHeld 0 = .ok (.iconst 0, 1) := by decide +kernel
theorem dX5_isHeld_1 : decode cX5_isHeld 1 = .ok (.istore 4, 2) := by decide +kernel
theorem dX5_isHeld_3 : decode cX5_isHeld 3 = .ok (.iload 4, 2) := by decide +kernel
theorem dX5_isHeld_5 : decode cX5_isHeld 5 = .ok (.aload_n 0, 1) := by decide +kernel
theorem dX5_isHeld_6 : decode cX5_isHeld 6 = .ok (.getfield 120, 3) := by decide +kernel
theorem dX5_isHeld_9 : decode cX5_isHeld 9 = .ok (.if_icmp .ge 55, 3) := by decide +kernel
theorem dX5_isHeld_12 : decode cX5_isHeld 12 = .ok (.aload_n 0, 1) := by decide +kernel
theorem dX5_isHeld_13 : decode cX5_isHeld 13 = .ok (.getfield 56, 3) := by decide +kernel
theorem dX5_isHeld_16 : decode cX5_isHeld 16 = .ok (.iload 4, 2) := by decide +kernel
theorem dX5_isHeld_18 : decode cX5_isHeld 18 = .ok (.iaload, 1) := by decide +kernel
theorem dX5_isHeld_19 : decode cX5_isHeld 19 = .ok (.iload_n 1, 1) := by decide +kernel
theorem dX5_isHeld_20 : decode cX5_isHeld 20 = .ok (.if_icmp .ne 38, 3) := by decide +kernel
theorem dX5_isHeld_23 : decode cX5_isHeld 23 = .ok (.aload_n 0, 1) := by decide +kernel
theorem dX5_isHeld_24 : decode cX5_isHeld 24 = .ok (.getfield 59, 3) := by decide +kernel
theorem dX5_isHeld_27 : decode cX5_isHeld 27 = .ok (.iload 4, 2) := by decide +kernel
theorem dX5_isHeld_29 : decode cX5_isHeld 29 = .ok (.iaload, 1) := by decide +kernel
theorem dX5_isHeld_30 : decode cX5_isHeld 30 = .ok (.iload_n 2, 1) := by decide +kernel
theorem dX5_isHeld_31 : decode cX5_isHeld 31 = .ok (.if_icmp .ne 27, 3) := by decide +kernel
theorem dX5_isHeld_34 : decode cX5_isHeld 34 = .ok (.iload_n 3, 1) := by decide +kernel
theorem dX5_isHeld_35 : decode cX5_isHeld 35 = .ok (.aload_n 0, 1) := by decide +kernel
theorem dX5_isHeld_36 : decode cX5_isHeld 36 = .ok (.getfield 62, 3) := by decide +kernel
theorem dX5_isHeld_39 : decode cX5_isHeld 39 = .ok (.iload 4, 2) := by decide +kernel
theorem dX5_isHeld_41 : decode cX5_isHeld 41 = .ok (.iaload, 1) := by decide +kernel
theorem dX5_isHeld_42 : decode cX5_isHeld 42 = .ok (.if_icmp .lt 16, 3) := by decide +kernel
theorem dX5_isHeld_45 : decode cX5_isHeld 45 = .ok (.iload_n 3, 1) := by decide +kernel
theorem dX5_isHeld_46 : decode cX5_isHeld 46 = .ok (.aload_n 0, 1) := by decide +kernel
theorem dX5_isHeld_47 : decode cX5_isHeld 47 = .ok (.getfield 65, 3) := by decide +kernel
theorem dX5_isHeld_50 : decode cX5_isHeld 50 = .ok (.iload 4, 2) := by decide +kernel
theorem dX5_isHeld_52 : decode cX5_isHeld 52 = .ok (.iaload, 1) := by decide +kernel
theorem dX5_isHeld_53 : decode cX5_isHeld 53 = .ok (.if_icmp .gt 5, 3) := by decide +kernel
theorem dX5_isHeld_56 : decode cX5_isHeld 56 = .ok (.iconst 1, 1) := by decide +kernel
theorem dX5_isHeld_57 : decode cX5_isHeld 57 = .ok (.ireturn, 1) := by decide +kernel
theorem dX5_isHeld_58 : decode cX5_isHeld 58 = .ok (.iinc 4 1, 3) := by decide +kernel
theorem dX5_isHeld_61 : decode cX5_isHeld 61 = .ok (.goto (-58), 3) := by decide +kernel
theorem dX5_isHeld_64 : decode cX5_isHeld 64 = .ok (.iconst 0, 1) := by decide +kernel
theorem dX5_isHeld_65 : decode cX5_isHeld 65 = .ok (.ireturn, 1) := by decide +kernel
set_option maxRecDepth 20000 in
theorem ggX5_holds_X5_isHouse : GoodIn wsX5_holds wsX5_isHouse := goodIn_r _ [5, 6, 19, 20, 21, 22, 23, 24, 25, 26, 27, 28, 29, 30, 31, 32, 33, 34, 35, 36, 37, 38, 39, 40, 41, 42, 43, 44] (by decide +kernel) (by decide +kernel)
set_option maxRecDepth 20000 in
theorem gX5_holds_X5_isHouse : GoodIn wsX5_holds (wsV RX5 110 RX5 yX5_isHouse wsX5_isHouse) := goodIn_app (goodIn_of _ (by decide +kernel)) ggX5_holds_X5_isHouse
set_option maxRecDepth 20000 in
theorem ggX5_holds_X5_in : GoodIn wsX5_holds wsX5_in := goodIn_r _ [9] (by decide +kernel) (by decide +kernel)
set_option maxRecDepth 20000 in
theorem gX5_holds_X5_in : GoodIn wsX5_holds (va_wsS RX5 82 yX5_in wsX5_in) := goodIn_app (goodIn_of _ (by decide +kernel)) ggX5_holds_X5_in
set_option maxRecDepth 20000 in
theorem ggX5_holds_X5_isHeld : GoodIn wsX5_holds wsX5_isHeld := goodIn_r _ [13, 14, 15, 16, 17, 18, 19, 20, 21, 22, 23, 24, 25, 26, 27, 28, 29, 30, 31, 32, 33, 34, 35, 36, 37, 38, 39, 40, 41, 42, 43, 44] (by decide +kernel) (by decide +kernel)
set_option maxRecDepth 20000 in
theorem gX5_holds_X5_isHeld : GoodIn wsX5_holds (wsV RX5 123 RX5 yX5_isHeld wsX5_isHeld) := goodIn_app (goodIn_of _ (by decide +kernel)) ggX5_holds_X5_isHeld
theorem dX5_holds_0 : decode cX5_holds 0 = .ok (.aload_n 0, 1) := by decide +kernel
theorem dX5_holds_1 : decode cX5_holds 1 = .ok (.iload_n 1, 1) := by decide +kernel
theorem dX5_holds_2 : decode cX5_holds 2 = .ok (.invokevirtual 110, 3) := by decide +kernel
theorem dX5_holds_5 : decode cX5_holds 5 = .ok (.ifCond .eq 27, 3) := by decide +kernel
theorem dX5_holds_8 : decode cX5_holds 8 = .ok (.aload_n 0, 1) := by decide +kernel
theorem dX5_holds_9 : decode cX5_holds 9 = .ok (.iload_n 2, 1) := by decide +kernel
theorem dX5_holds_10 : decode cX5_holds 10 = .ok (.invokevirtual 110, 3) := by decide +kernel
theorem dX5_holds_13 : decode cX5_holds 13 = .ok (.ifCond .eq 19, 3) := by decide +kernel
theorem dX5_holds_16 : decode cX5_holds 16 = .ok (.iload_n 1, 1) := by decide +kernel
theorem dX5_holds_17 : decode cX5_holds 17 = .ok (.iload_n 2, 1) := by decide +kernel
theorem dX5_holds_18 : decode cX5_holds 18 = .ok (.if_icmp .eq 14, 3) := by decide +kernel
theorem dX5_holds_21 : decode cX5_holds 21 = .ok (.iload_n 3, 1) := by decide +kernel
theorem dX5_holds_22 : decode cX5_holds 22 = .ok (.iconst 0, 1) := by decide +kernel
theorem dX5_holds_23 : decode cX5_holds 23 = .ok (.sipush 3000, 3) := by decide +kernel
theorem dX5_holds_26 : decode cX5_holds 26 = .ok (.invokestatic 82, 3) := by decide +kernel
theorem dX5_holds_29 : decode cX5_holds 29 = .ok (.ifCond .ne 5, 3) := by decide +kernel
theorem dX5_holds_32 : decode cX5_holds 32 = .ok (.iconst (-1), 1) := by decide +kernel
theorem dX5_holds_33 : decode cX5_holds 33 = .ok (.ireturn, 1) := by decide +kernel
theorem dX5_holds_34 : decode cX5_holds 34 = .ok (.aload_n 0, 1) := by decide +kernel
theorem dX5_holds_35 : decode cX5_holds 35 = .ok (.iload_n 1, 1) := by decide +kernel
theorem dX5_holds_36 : decode cX5_holds 36 = .ok (.iload_n 2, 1) := by decide +kernel
theorem dX5_holds_37 : decode cX5_holds 37 = .ok (.iload_n 3, 1) := by decide +kernel
theorem dX5_holds_38 : decode cX5_holds 38 = .ok (.invokevirtual 123, 3) := by decide +kernel
theorem dX5_holds_41 : decode cX5_holds 41 = .ok (.ifCond .eq 7, 3) := by decide +kernel
theorem dX5_holds_44 : decode cX5_holds 44 = .ok (.iconst 1, 1) := by decide +kernel
theorem dX5_holds_45 : decode cX5_holds 45 = .ok (.goto 4, 3) := by decide +kernel
theorem dX5_holds_48 : decode cX5_holds 48 = .ok (.iconst 0, 1) := by decide +kernel
theorem dX5_holds_49 : decode cX5_holds 49 = .ok (.ireturn, 1) := by decide +kernel
theorem dX5_writes_0 : decode cX5_writes 0 = .ok (.bipush 6, 2) := by decide +kernel
theorem dX5_writes_2 : decode cX5_writes 2 = .ok (.aload_n 0, 1) := by decide +kernel
theorem dX5_writes_3 : decode cX5_writes 3 = .ok (.getfield 126, 3) := by decide +kernel
theorem dX5_writes_6 : decode cX5_writes 6 = .ok (.imul, 1) := by decide +kernel
theorem dX5_writes_7 : decode cX5_writes 7 = .ok (.istore 6, 2) := by decide +kernel
theorem dX5_writes_9 : decode cX5_writes 9 = .ok (.aload_n 0, 1) := by decide +kernel
theorem dX5_writes_10 : decode cX5_writes 10 = .ok (.getfield 68, 3) := by decide +kernel
theorem dX5_writes_13 : decode cX5_writes 13 = .ok (.iload 6, 2) := by decide +kernel
theorem dX5_writes_15 : decode cX5_writes 15 = .ok (.iload_n 1, 1) := by decide +kernel
theorem dX5_writes_16 : decode cX5_writes 16 = .ok (.iastore, 1) := by decide +kernel
theorem dX5_writes_17 : decode cX5_writes 17 = .ok (.aload_n 0, 1) := by decide +kernel
theorem dX5_writes_18 : decode cX5_writes 18 = .ok (.getfield 68, 3) := by decide +kernel
theorem dX5_writes_21 : decode cX5_writes 21 = .ok (.iload 6, 2) := by decide +kernel
theorem dX5_writes_23 : decode cX5_writes 23 = .ok (.iconst 1, 1) := by decide +kernel
theorem dX5_writes_24 : decode cX5_writes 24 = .ok (.iadd, 1) := by decide +kernel
theorem dX5_writes_25 : decode cX5_writes 25 = .ok (.iload_n 2, 1) := by decide +kernel
theorem dX5_writes_26 : decode cX5_writes 26 = .ok (.iastore, 1) := by decide +kernel
theorem dX5_writes_27 : decode cX5_writes 27 = .ok (.aload_n 0, 1) := by decide +kernel
theorem dX5_writes_28 : decode cX5_writes 28 = .ok (.getfield 68, 3) := by decide +kernel
theorem dX5_writes_31 : decode cX5_writes 31 = .ok (.iload 6, 2) := by decide +kernel
theorem dX5_writes_33 : decode cX5_writes 33 = .ok (.iconst 2, 1) := by decide +kernel
theorem dX5_writes_34 : decode cX5_writes 34 = .ok (.iadd, 1) := by decide +kernel
theorem dX5_writes_35 : decode cX5_writes 35 = .ok (.iload_n 3, 1) := by decide +kernel
theorem dX5_writes_36 : decode cX5_writes 36 = .ok (.iastore, 1) := by decide +kernel
theorem dX5_writes_37 : decode cX5_writes 37 = .ok (.aload_n 0, 1) := by decide +kernel
theorem dX5_writes_38 : decode cX5_writes 38 = .ok (.getfield 68, 3) := by decide +kernel
theorem dX5_writes_41 : decode cX5_writes 41 = .ok (.iload 6, 2) := by decide +kernel
theorem dX5_writes_43 : decode cX5_writes 43 = .ok (.iconst 3, 1) := by decide +kernel
theorem dX5_writes_44 : decode cX5_writes 44 = .ok (.iadd, 1) := by decide +kernel
theorem dX5_writes_45 : decode cX5_writes 45 = .ok (.iload 4, 2) := by decide +kernel
theorem dX5_writes_47 : decode cX5_writes 47 = .ok (.iastore, 1) := by decide +kernel
theorem dX5_writes_48 : decode cX5_writes 48 = .ok (.aload_n 0, 1) := by decide +kernel
theorem dX5_writes_49 : decode cX5_writes 49 = .ok (.getfield 68, 3) := by decide +kernel
theorem dX5_writes_52 : decode cX5_writes 52 = .ok (.iload 6, 2) := by decide +kernel
theorem dX5_writes_54 : decode cX5_writes 54 = .ok (.iconst 4, 1) := by decide +kernel
theorem dX5_writes_55 : decode cX5_writes 55 = .ok (.iadd, 1) := by decide +kernel
theorem dX5_writes_56 : decode cX5_writes 56 = .ok (.iload 5, 2) := by decide +kernel
theorem dX5_writes_58 : decode cX5_writes 58 = .ok (.iastore, 1) := by decide +kernel
theorem dX5_writes_59 : decode cX5_writes 59 = .ok (.aload_n 0, 1) := by decide +kernel
theorem dX5_writes_60 : decode cX5_writes 60 = .ok (.getfield 68, 3) := by decide +kernel
theorem dX5_writes_63 : decode cX5_writes 63 = .ok (.iload 6, 2) := by decide +kernel
theorem dX5_writes_65 : decode cX5_writes 65 = .ok (.iconst 5, 1) := by decide +kernel
theorem dX5_writes_66 : decode cX5_writes 66 = .ok (.iadd, 1) := by decide +kernel
theorem dX5_writes_67 : decode cX5_writes 67 = .ok (.aload_n 0, 1) := by decide +kernel
theorem dX5_writes_68 : decode cX5_writes 68 = .ok (.getfield 94, 3) := by decide +kernel
theorem dX5_writes_71 : decode cX5_writes 71 = .ok (.iastore, 1) := by decide +kernel
theorem dX5_writes_72 : decode cX5_writes 72 = .ok (.aload_n 0, 1) := by decide +kernel
theorem dX5_writes_73 : decode cX5_writes 73 = .ok (.aload_n 0, 1) := by decide +kernel
theorem dX5_writes_74 : decode cX5_writes 74 = .ok (.getfield 126, 3) := by decide +kernel
theorem dX5_writes_77 : decode cX5_writes 77 = .ok (.iconst 1, 1) := by decide +kernel
theorem dX5_writes_78 : decode cX5_writes 78 = .ok (.iadd, 1) := by decide +kernel
theorem dX5_writes_79 : decode cX5_writes 79 = .ok (.putfield 126, 3) := by decide +kernel
theorem dX5_writes_82 : decode cX5_writes 82 = .ok (.return_, 1) := by decide +kernel
set_option maxRecDepth 20000 in
theorem ggX5_crossed_X5_find : GoodIn wsX5_crossed wsX5_find := goodIn_r _ [11, 12, 13, 14, 45, 46, 47, 48, 49, 50, 51, 52, 53, 54, 55, 56, 57, 58, 59, 60, 61, 62, 63, 64, 65, 66, 67, 68, 69, 70] (by decide +kernel) (by decide +kernel)
set_option maxRecDepth 20000 in
theorem gX5_crossed_X5_find : GoodIn wsX5_crossed (wsV RX5 117 RX5 yX5_find wsX5_find) := goodIn_app (goodIn_of _ (by decide +kernel)) ggX5_crossed_X5_find
set_option maxRecDepth 20000 in
theorem ggX5_crossed_X5_isHeld : GoodIn wsX5_crossed wsX5_isHeld := goodIn_r _ [18, 19, 20, 21, 22, 23, 45, 46, 47, 48, 49, 50, 51, 52, 53, 54, 55, 56, 57, 58, 59, 60, 61, 62, 63, 64, 65, 66, 67, 68, 69, 70] (by decide +kernel) (by decide +kernel)
set_option maxRecDepth 20000 in
theorem gX5_crossed_X5_isHeld : GoodIn wsX5_crossed (wsV RX5 123 RX5 yX5_isHeld wsX5_isHeld) := goodIn_app (goodIn_of _ (by decide +kernel)) ggX5_crossed_X5_isHeld
set_option maxRecDepth 20000 in
theorem ggX5_crossed_X5_spanNow : GoodIn wsX5_crossed wsX5_spanNow := goodIn_r _ [27, 5, 1, 28, 45, 46, 47, 48, 49, 50, 51, 52, 53, 54, 55, 56, 57, 58, 59, 60, 61, 62, 63, 64, 65, 66, 67, 68, 69, 70] (by decide +kernel) (by decide +kernel)
set_option maxRecDepth 20000 in
theorem gX5_crossed_X5_spanNow : GoodIn wsX5_crossed (wsV RX5 103 RX5 yX5_spanNow wsX5_spanNow) := goodIn_app (goodIn_of _ (by decide +kernel)) ggX5_crossed_X5_spanNow
set_option maxRecDepth 20000 in
theorem ggX5_crossed_X5_namesOf : GoodIn wsX5_crossed wsX5_namesOf := goodIn_r _ [32, 5, 12, 33, 13, 14, 34, 4, 35, 1, 6, 36, 37, 38, 10, 39, 40, 24, 25, 26, 27, 28, 41, 42, 43, 44, 45, 46, 47, 48, 49, 50, 51, 52, 53, 54, 55, 56, 57, 58, 59, 60, 61, 62, 63, 64, 65, 66, 67, 68, 69, 70] (by decide +kernel) (by decide +kernel)
set_option maxRecDepth 20000 in
theorem gX5_crossed_X5_namesOf : GoodIn wsX5_crossed (wsV RX5 113 RX5 yX5_namesOf wsX5_namesOf) := goodIn_app (goodIn_of _ (by decide +kernel)) ggX5_crossed_X5_namesOf
theorem dX5_crossed_0 : decode cX5_crossed 0 = .ok (.aload_n 0, 1) := by decide +kernel
theorem dX5_crossed_1 : decode cX5_crossed 1 = .ok (.iload_n 1, 1) := by decide +kernel
theorem dX5_crossed_2 : decode cX5_crossed 2 = .ok (.iload_n 3, 1) := by decide +kernel
theorem dX5_crossed_3 : decode cX5_crossed 3 = .ok (.invokevirtual 117, 3) := by decide +kernel
theorem dX5_crossed_6 : decode cX5_crossed 6 = .ok (.istore 4, 2) := by decide +kernel
theorem dX5_crossed_8 : decode cX5_crossed 8 = .ok (.iload 4, 2) := by decide +kernel
theorem dX5_crossed_10 : decode cX5_crossed 10 = .ok (.iconst (-1), 1) := by decide +kernel
theorem dX5_crossed_11 : decode cX5_crossed 11 = .ok (.if_icmp .eq 65, 3) := by decide +kernel
theorem dX5_crossed_14 : decode cX5_crossed 14 = .ok (.aload_n 0, 1) := by decide +kernel
theorem dX5_crossed_15 : decode cX5_crossed 15 = .ok (.iload_n 1, 1) := by decide +kernel
theorem dX5_crossed_16 : decode cX5_crossed 16 = .ok (.iload_n 2, 1) := by decide +kernel
theorem dX5_crossed_17 : decode cX5_crossed 17 = .ok (.aload_n 0, 1) := by decide +kernel
theorem dX5_crossed_18 : decode cX5_crossed 18 = .ok (.getfield 94, 3) := by decide +kernel
theorem dX5_crossed_21 : decode cX5_crossed 21 = .ok (.invokevirtual 123, 3) := by decide +kernel
theorem dX5_crossed_24 : decode cX5_crossed 24 = .ok (.ifCond .eq 52, 3) := by decide +kernel
theorem dX5_crossed_27 : decode cX5_crossed 27 = .ok (.aload_n 0, 1) := by decide +kernel
theorem dX5_crossed_28 : decode cX5_crossed 28 = .ok (.getfield 38, 3) := by decide +kernel
theorem dX5_crossed_31 : decode cX5_crossed 31 = .ok (.iload_n 1, 1) := by decide +kernel
theorem dX5_crossed_32 : decode cX5_crossed 32 = .ok (.baload, 1) := by decide +kernel
theorem dX5_crossed_33 : decode cX5_crossed 33 = .ok (.ifCond .ne 43, 3) := by decide +kernel
theorem dX5_crossed_36 : decode cX5_crossed 36 = .ok (.aload_n 0, 1) := by decide +kernel
theorem dX5_crossed_37 : decode cX5_crossed 37 = .ok (.getfield 16, 3) := by decide +kernel
theorem dX5_crossed_40 : decode cX5_crossed 40 = .ok (.aload_n 0, 1) := by decide +kernel
theorem dX5_crossed_41 : decode cX5_crossed 41 = .ok (.getfield 47, 3) := by decide +kernel
theorem dX5_crossed_44 : decode cX5_crossed 44 = .ok (.iload 4, 2) := by decide +kernel
theorem dX5_crossed_46 : decode cX5_crossed 46 = .ok (.iaload, 1) := by decide +kernel
theorem dX5_crossed_47 : decode cX5_crossed 47 = .ok (.baload, 1) := by decide +kernel
theorem dX5_crossed_48 : decode cX5_crossed 48 = .ok (.ifCond .ne 28, 3) := by decide +kernel
theorem dX5_crossed_51 : decode cX5_crossed 51 = .ok (.aload_n 0, 1) := by decide +kernel
theorem dX5_crossed_52 : decode cX5_crossed 52 = .ok (.getfield 20, 3) := by decide +kernel
theorem dX5_crossed_55 : decode cX5_crossed 55 = .ok (.iload_n 1, 1) := by decide +kernel
theorem dX5_crossed_56 : decode cX5_crossed 56 = .ok (.iaload, 1) := by decide +kernel
theorem dX5_crossed_57 : decode cX5_crossed 57 = .ok (.iconst 1, 1) := by decide +kernel
theorem dX5_crossed_58 : decode cX5_crossed 58 = .ok (.if_icmp .ne 20, 3) := by decide +kernel
theorem dX5_crossed_61 : decode cX5_crossed 61 = .ok (.aload_n 0, 1) := by decide +kernel
theorem dX5_crossed_62 : decode cX5_crossed 62 = .ok (.getfield 53, 3) := by decide +kernel
theorem dX5_crossed_65 : decode cX5_crossed 65 = .ok (.iload 4, 2) := by decide +kernel
theorem dX5_crossed_67 : decode cX5_crossed 67 = .ok (.iaload, 1) := by decide +kernel
theorem dX5_crossed_68 : decode cX5_crossed 68 = .ok (.aload_n 0, 1) := by decide +kernel
theorem dX5_crossed_69 : decode cX5_crossed 69 = .ok (.iload_n 1, 1) := by decide +kernel
theorem dX5_crossed_70 : decode cX5_crossed 70 = .ok (.invokevirtual 103, 3) := by decide +kernel
theorem dX5_crossed_73 : decode cX5_crossed 73 = .ok (.if_icmp .eq 5, 3) := by decide +kernel
theorem dX5_crossed_76 : decode cX5_crossed 76 = .ok (.iconst (-1), 1) := by decide +kernel
theorem dX5_crossed_77 : decode cX5_crossed 77 = .ok (.ireturn, 1) := by decide +kernel
theorem dX5_crossed_78 : decode cX5_crossed 78 = .ok (.aload_n 0, 1) := by decide +kernel
theorem dX5_crossed_79 : decode cX5_crossed 79 = .ok (.iload_n 2, 1) := by decide +kernel
theorem dX5_crossed_80 : decode cX5_crossed 80 = .ok (.aload_n 0, 1) := by decide +kernel
theorem dX5_crossed_81 : decode cX5_crossed 81 = .ok (.getfield 47, 3) := by decide +kernel
theorem dX5_crossed_84 : decode cX5_crossed 84 = .ok (.iload 4, 2) := by decide +kernel
theorem dX5_crossed_86 : decode cX5_crossed 86 = .ok (.iaload, 1) := by decide +kernel
theorem dX5_crossed_87 : decode cX5_crossed 87 = .ok (.invokevirtual 113, 3) := by decide +kernel
theorem dX5_crossed_90 : decode cX5_crossed 90 = .ok (.ireturn, 1) := by decide +kernel
set_option maxRecDepth 20000 in
theorem ggX5_cross_X5_isHouse : GoodIn wsX5_cross wsX5_isHouse := goodIn_r _ [7, 8, 63, 64, 65, 66, 67, 68, 69, 70, 71, 72, 73, 74, 75, 76, 77, 78, 79, 80, 81, 82, 83, 84, 85, 86, 87, 88] (by decide +kernel) (by decide +kernel)
set_option maxRecDepth 20000 in
theorem gX5_cross_X5_isHouse : GoodIn wsX5_cross (wsV RX5 110 RX5 yX5_isHouse wsX5_isHouse) := goodIn_app (goodIn_of _ (by decide +kernel)) ggX5_cross_X5_isHouse
set_option maxRecDepth 20000 in
theorem ggX5_cross_X5_in : GoodIn wsX5_cross wsX5_in := goodIn_r _ [11] (by decide +kernel) (by decide +kernel)
set_option maxRecDepth 20000 in
theorem gX5_cross_X5_in : GoodIn wsX5_cross (va_wsS RX5 82 yX5_in wsX5_in) := goodIn_app (goodIn_of _ (by decide +kernel)) ggX5_cross_X5_in
set_option maxRecDepth 20000 in
theorem ggX5_cross_X5_crossed : GoodIn wsX5_cross wsX5_crossed := goodIn_r _ [15, 16, 17, 18, 19, 20, 21, 22, 23, 24, 6, 25, 26, 27, 2, 28, 29, 30, 31, 32, 33, 34, 35, 36, 37, 38, 39, 40, 41, 42, 43, 44, 45, 46, 47, 48, 49, 50, 51, 52, 53, 54, 55, 56, 57, 63, 64, 65, 66, 67, 68, 69, 70, 71, 72, 73, 74, 75, 76, 77, 78, 79, 80, 81, 82, 83, 84, 85, 86, 87, 88] (by decide +kernel) (by decide +kernel)
set_option maxRecDepth 20000 in
theorem gX5_cross_X5_crossed : GoodIn wsX5_cross (wsV RX5 129 RX5 yX5_crossed wsX5_crossed) := goodIn_app (goodIn_of _ (by decide +kernel)) ggX5_cross_X5_crossed
set_option maxRecDepth 20000 in
theorem ggX5_cross_X5_writes : GoodIn wsX5_cross wsX5_writes := goodIn_r _ [61, 1, 62, 16, 63, 64, 65, 66, 67, 68, 69, 70, 71, 72, 73, 74, 75, 76, 77, 78, 79, 80, 81, 82, 83, 84, 85, 86, 87, 88] (by decide +kernel) (by decide +kernel)
set_option maxRecDepth 20000 in
theorem gX5_cross_X5_writes : GoodIn wsX5_cross (wsV RX5 132 RX5 yX5_writes wsX5_writes) := goodIn_app (goodIn_of _ (by decide +kernel)) ggX5_cross_X5_writes
theorem dX5_cross_0 : decode cX5_cross 0 = .ok (.aload_n 0, 1) := by decide +kernel
theorem dX5_cross_1 : decode cX5_cross 1 = .ok (.iload_n 1, 1) := by decide +kernel
theorem dX5_cross_2 : decode cX5_cross 2 = .ok (.invokevirtual 110, 3) := by decide +kernel
theorem dX5_cross_5 : decode cX5_cross 5 = .ok (.ifCond .eq 32, 3) := by decide +kernel
theorem dX5_cross_8 : decode cX5_cross 8 = .ok (.aload_n 0, 1) := by decide +kernel
theorem dX5_cross_9 : decode cX5_cross 9 = .ok (.iload_n 2, 1) := by decide +kernel
theorem dX5_cross_10 : decode cX5_cross 10 = .ok (.invokevirtual 110, 3) := by decide +kernel
theorem dX5_cross_13 : decode cX5_cross 13 = .ok (.ifCond .eq 24, 3) := by decide +kernel
theorem dX5_cross_16 : decode cX5_cross 16 = .ok (.iload 4, 2) := by decide +kernel
theorem dX5_cross_18 : decode cX5_cross 18 = .ok (.iconst 0, 1) := by decide +kernel
theorem dX5_cross_19 : decode cX5_cross 19 = .ok (.bipush 9, 2) := by decide +kernel
theorem dX5_cross_21 : decode cX5_cross 21 = .ok (.invokestatic 82, 3) := by decide +kernel
theorem dX5_cross_24 : decode cX5_cross 24 = .ok (.ifCond .eq 13, 3) := by decide +kernel
theorem dX5_cross_27 : decode cX5_cross 27 = .ok (.aload_n 0, 1) := by decide +kernel
theorem dX5_cross_28 : decode cX5_cross 28 = .ok (.getfield 126, 3) := by decide +kernel
theorem dX5_cross_31 : decode cX5_cross 31 = .ok (.sipush 200, 3) := by decide +kernel
theorem dX5_cross_34 : decode cX5_cross 34 = .ok (.if_icmp .ne 5, 3) := by decide +kernel
theorem dX5_cross_37 : decode cX5_cross 37 = .ok (.iconst (-1), 1) := by decide +kernel
theorem dX5_cross_38 : decode cX5_cross 38 = .ok (.ireturn, 1) := by decide +kernel
theorem dX5_cross_39 : decode cX5_cross 39 = .ok (.aload_n 0, 1) := by decide +kernel
theorem dX5_cross_40 : decode cX5_cross 40 = .ok (.iload_n 1, 1) := by decide +kernel
theorem dX5_cross_41 : decode cX5_cross 41 = .ok (.iload_n 2, 1) := by decide +kernel
theorem dX5_cross_42 : decode cX5_cross 42 = .ok (.iload_n 3, 1) := by decide +kernel
theorem dX5_cross_43 : decode cX5_cross 43 = .ok (.invokevirtual 129, 3) := by decide +kernel
theorem dX5_cross_46 : decode cX5_cross 46 = .ok (.istore 5, 2) := by decide +kernel
theorem dX5_cross_48 : decode cX5_cross 48 = .ok (.aload_n 0, 1) := by decide +kernel
theorem dX5_cross_49 : decode cX5_cross 49 = .ok (.iload 5, 2) := by decide +kernel
theorem dX5_cross_51 : decode cX5_cross 51 = .ok (.iconst (-1), 1) := by decide +kernel
theorem dX5_cross_52 : decode cX5_cross 52 = .ok (.if_icmp .ne 7, 3) := by decide +kernel
theorem dX5_cross_55 : decode cX5_cross 55 = .ok (.iconst 2, 1) := by decide +kernel
theorem dX5_cross_56 : decode cX5_cross 56 = .ok (.goto 4, 3) := by decide +kernel
theorem dX5_cross_59 : decode cX5_cross 59 = .ok (.iconst 0, 1) := by decide +kernel
theorem dX5_cross_60 : decode cX5_cross 60 = .ok (.iload_n 1, 1) := by decide +kernel
theorem dX5_cross_61 : decode cX5_cross 61 = .ok (.iload_n 3, 1) := by decide +kernel
theorem dX5_cross_62 : decode cX5_cross 62 = .ok (.iload 4, 2) := by decide +kernel
theorem dX5_cross_64 : decode cX5_cross 64 = .ok (.iconst (-1), 1) := by decide +kernel
theorem dX5_cross_65 : decode cX5_cross 65 = .ok (.invokevirtual 132, 3) := by decide +kernel
theorem dX5_cross_68 : decode cX5_cross 68 = .ok (.iload 5, 2) := by decide +kernel
theorem dX5_cross_70 : decode cX5_cross 70 = .ok (.iconst (-1), 1) := by decide +kernel
theorem dX5_cross_71 : decode cX5_cross 71 = .ok (.if_icmp .ne 7, 3) := by decide +kernel
theorem dX5_cross_74 : decode cX5_cross 74 = .ok (.iconst (-1), 1) := by decide +kernel
theorem dX5_cross_75 : decode cX5_cross 75 = .ok (.goto 10, 3) := by decide +kernel
theorem dX5_cross_78 : decode cX5_cross 78 = .ok (.aload_n 0, 1) := by decide +kernel
theorem dX5_cross_79 : decode cX5_cross 79 = .ok (.getfield 44, 3) := by decide +kernel
theorem dX5_cross_82 : decode cX5_cross 82 = .ok (.iload 5, 2) := by decide +kernel
theorem dX5_cross_84 : decode cX5_cross 84 = .ok (.iaload, 1) := by decide +kernel
theorem dX5_cross_85 : decode cX5_cross 85 = .ok (.ireturn, 1) := by decide +kernel
set_option maxRecDepth 20000 in
theorem ggX5_back_X5_isHouse : GoodIn wsX5_back wsX5_isHouse := goodIn_r _ [10, 11, 33, 34, 35, 36, 37, 38, 39, 40, 41, 42, 43, 44, 45, 46, 47, 48, 49, 50, 51, 52, 53, 54, 55, 56, 57, 58] (by decide +kernel) (by decide +kernel)
set_option maxRecDepth 20000 in
theorem gX5_back_X5_isHouse : GoodIn wsX5_back (wsV RX5 110 RX5 yX5_isHouse wsX5_isHouse) := goodIn_app (goodIn_of _ (by decide +kernel)) ggX5_back_X5_isHouse
set_option maxRecDepth 20000 in
theorem ggX5_back_X5_in : GoodIn wsX5_back wsX5_in := goodIn_r _ [14] (by decide +kernel) (by decide +kernel)
set_option maxRecDepth 20000 in
theorem gX5_back_X5_in : GoodIn wsX5_back (va_wsS RX5 82 yX5_in wsX5_in) := goodIn_app (goodIn_of _ (by decide +kernel)) ggX5_back_X5_in
set_option maxRecDepth 20000 in
theorem ggX5_back_X5_find : GoodIn wsX5_back wsX5_find := goodIn_r _ [18, 19, 20, 21, 33, 34, 35, 36, 37, 38, 39, 40, 41, 42, 43, 44, 45, 46, 47, 48, 49, 50, 51, 52, 53, 54, 55, 56, 57, 58] (by decide +kernel) (by decide +kernel)
set_option maxRecDepth 20000 in
theorem gX5_back_X5_find : GoodIn wsX5_back (wsV RX5 117 RX5 yX5_find wsX5_find) := goodIn_app (goodIn_of _ (by decide +kernel)) ggX5_back_X5_find
set_option maxRecDepth 20000 in
theorem ggX5_back_X5_writes : GoodIn wsX5_back wsX5_writes := goodIn_r _ [25, 1, 26, 27, 33, 34, 35, 36, 37, 38, 39, 40, 41, 42, 43, 44, 45, 46, 47, 48, 49, 50, 51, 52, 53, 54, 55, 56, 57, 58] (by decide +kernel) (by decide +kernel)
set_option maxRecDepth 20000 in
theorem gX5_back_X5_writes : GoodIn wsX5_back (wsV RX5 132 RX5 yX5_writes wsX5_writes) := goodIn_app (goodIn_of _ (by decide +kernel)) ggX5_back_X5_writes
set_option maxRecDepth 20000 in
theorem ggX5_back_X5_head : GoodIn wsX5_back wsX5_head := goodIn_r _ [31, 32, 33, 34, 35, 36, 37, 38, 39, 40, 41, 42, 43, 44, 45, 46, 47, 48, 49, 50, 51, 52, 53, 54, 55, 56, 57, 58] (by decide +kernel) (by decide +kernel)
set_option maxRecDepth 20000 in
theorem gX5_back_X5_head : GoodIn wsX5_back (wsV RX5 86 RX5 yX5_head wsX5_head) := goodIn_app (goodIn_of _ (by decide +kernel)) ggX5_back_X5_head
theorem dX5_back_0 : decode cX5_back 0 = .ok (.aload_n 0, 1) := by decide +kernel
theorem dX5_back_1 : decode cX5_back 1 = .ok (.iload_n 1, 1) := by decide +kernel
theorem dX5_back_2 : decode cX5_back 2 = .ok (.invokevirtual 110, 3) := by decide +kernel
theorem dX5_back_5 : decode cX5_back 5 = .ok (.ifCond .eq 45, 3) := by decide +kernel
theorem dX5_back_8 : decode cX5_back 8 = .ok (.iload_n 3, 1) := by decide +kernel
theorem dX5_back_9 : decode cX5_back 9 = .ok (.iconst 0, 1) := by decide +kernel
theorem dX5_back_10 : decode cX5_back 10 = .ok (.bipush 7, 2) := by decide +kernel
theorem dX5_back_12 : decode cX5_back 12 = .ok (.invokestatic 82, 3) := by decide +kernel
theorem dX5_back_15 : decode cX5_back 15 = .ok (.ifCond .eq 35, 3) := by decide +kernel
theorem dX5_back_18 : decode cX5_back 18 = .ok (.iload 4, 2) := by decide +kernel
theorem dX5_back_20 : decode cX5_back 20 = .ok (.iconst 0, 1) := by decide +kernel
theorem dX5_back_21 : decode cX5_back 21 = .ok (.bipush 9, 2) := by decide +kernel
theorem dX5_back_23 : decode cX5_back 23 = .ok (.invokestatic 82, 3) := by decide +kernel
theorem dX5_back_26 : decode cX5_back 26 = .ok (.ifCond .eq 24, 3) := by decide +kernel
theorem dX5_back_29 : decode cX5_back 29 = .ok (.iload 5, 2) := by decide +kernel
theorem dX5_back_31 : decode cX5_back 31 = .ok (.iconst 0, 1) := by decide +kernel
theorem dX5_back_32 : decode cX5_back 32 = .ok (.bipush 9, 2) := by decide +kernel
theorem dX5_back_34 : decode cX5_back 34 = .ok (.invokestatic 82, 3) := by decide +kernel
theorem dX5_back_37 : decode cX5_back 37 = .ok (.ifCond .eq 13, 3) := by decide +kernel
theorem dX5_back_40 : decode cX5_back 40 = .ok (.aload_n 0, 1) := by decide +kernel
theorem dX5_back_41 : decode cX5_back 41 = .ok (.getfield 126, 3) := by decide +kernel
theorem dX5_back_44 : decode cX5_back 44 = .ok (.sipush 200, 3) := by decide +kernel
theorem dX5_back_47 : decode cX5_back 47 = .ok (.if_icmp .ne 5, 3) := by decide +kernel
theorem dX5_back_50 : decode cX5_back 50 = .ok (.iconst (-1), 1) := by decide +kernel
theorem dX5_back_51 : decode cX5_back 51 = .ok (.ireturn, 1) := by decide +kernel
theorem dX5_back_52 : decode cX5_back 52 = .ok (.aload_n 0, 1) := by decide +kernel
theorem dX5_back_53 : decode cX5_back 53 = .ok (.iload_n 1, 1) := by decide +kernel
theorem dX5_back_54 : decode cX5_back 54 = .ok (.iload_n 2, 1) := by decide +kernel
theorem dX5_back_55 : decode cX5_back 55 = .ok (.invokevirtual 117, 3) := by decide +kernel
theorem dX5_back_58 : decode cX5_back 58 = .ok (.istore 6, 2) := by decide +kernel
theorem dX5_back_60 : decode cX5_back 60 = .ok (.iload 6, 2) := by decide +kernel
theorem dX5_back_62 : decode cX5_back 62 = .ok (.iconst (-1), 1) := by decide +kernel
theorem dX5_back_63 : decode cX5_back 63 = .ok (.if_icmp .eq 52, 3) := by decide +kernel
theorem dX5_back_66 : decode cX5_back 66 = .ok (.iload 4, 2) := by decide +kernel
theorem dX5_back_68 : decode cX5_back 68 = .ok (.iload 5, 2) := by decide +kernel
theorem dX5_back_70 : decode cX5_back 70 = .ok (.if_icmp .eq 45, 3) := by decide +kernel
theorem dX5_back_73 : decode cX5_back 73 = .ok (.aload_n 0, 1) := by decide +kernel
theorem dX5_back_74 : decode cX5_back 74 = .ok (.getfield 29, 3) := by decide +kernel
theorem dX5_back_77 : decode cX5_back 77 = .ok (.iload_n 1, 1) := by decide +kernel
theorem dX5_back_78 : decode cX5_back 78 = .ok (.iaload, 1) := by decide +kernel
theorem dX5_back_79 : decode cX5_back 79 = .ok (.iload_n 3, 1) := by decide +kernel
theorem dX5_back_80 : decode cX5_back 80 = .ok (.ishr, 1) := by decide +kernel
theorem dX5_back_81 : decode cX5_back 81 = .ok (.iconst 1, 1) := by decide +kernel
theorem dX5_back_82 : decode cX5_back 82 = .ok (.iand, 1) := by decide +kernel
theorem dX5_back_83 : decode cX5_back 83 = .ok (.iconst 1, 1) := by decide +kernel
theorem dX5_back_84 : decode cX5_back 84 = .ok (.if_icmp .ne 31, 3) := by decide +kernel
theorem dX5_back_87 : decode cX5_back 87 = .ok (.aload_n 0, 1) := by decide +kernel
theorem dX5_back_88 : decode cX5_back 88 = .ok (.getfield 38, 3) := by decide +kernel
theorem dX5_back_91 : decode cX5_back 91 = .ok (.iload_n 1, 1) := by decide +kernel
theorem dX5_back_92 : decode cX5_back 92 = .ok (.baload, 1) := by decide +kernel
theorem dX5_back_93 : decode cX5_back 93 = .ok (.ifCond .ne 22, 3) := by decide +kernel
theorem dX5_back_96 : decode cX5_back 96 = .ok (.aload_n 0, 1) := by decide +kernel
theorem dX5_back_97 : decode cX5_back 97 = .ok (.getfield 16, 3) := by decide +kernel
theorem dX5_back_100 : decode cX5_back 100 = .ok (.aload_n 0, 1) := by decide +kernel
theorem dX5_back_101 : decode cX5_back 101 = .ok (.getfield 47, 3) := by decide +kernel
theorem dX5_back_104 : decode cX5_back 104 = .ok (.iload 6, 2) := by decide +kernel
theorem dX5_back_106 : decode cX5_back 106 = .ok (.iaload, 1) := by decide +kernel
theorem dX5_back_107 : decode cX5_back 107 = .ok (.baload, 1) := by decide +kernel
theorem dX5_back_108 : decode cX5_back 108 = .ok (.ifCond .ne 7, 3) := by decide +kernel
theorem dX5_back_111 : decode cX5_back 111 = .ok (.iconst 1, 1) := by decide +kernel
theorem dX5_back_112 : decode cX5_back 112 = .ok (.goto 4, 3) := by decide +kernel
theorem dX5_back_115 : decode cX5_back 115 = .ok (.iconst 0, 1) := by decide +kernel
theorem dX5_back_116 : decode cX5_back 116 = .ok (.istore 7, 2) := by decide +kernel
theorem dX5_back_118 : decode cX5_back 118 = .ok (.aload_n 0, 1) := by decide +kernel
theorem dX5_back_119 : decode cX5_back 119 = .ok (.iload 7, 2) := by decide +kernel
theorem dX5_back_121 : decode cX5_back 121 = .ok (.ifCond .eq 7, 3) := by decide +kernel
theorem dX5_back_124 : decode cX5_back 124 = .ok (.iconst 1, 1) := by decide +kernel
theorem dX5_back_125 : decode cX5_back 125 = .ok (.goto 4, 3) := by decide +kernel
theorem dX5_back_128 : decode cX5_back 128 = .ok (.iconst 3, 1) := by decide +kernel
theorem dX5_back_129 : decode cX5_back 129 = .ok (.iload_n 1, 1) := by decide +kernel
theorem dX5_back_130 : decode cX5_back 130 = .ok (.iload_n 2, 1) := by decide +kernel
theorem dX5_back_131 : decode cX5_back 131 = .ok (.iload 4, 2) := by decide +kernel
theorem dX5_back_133 : decode cX5_back 133 = .ok (.iload 5, 2) := by decide +kernel
theorem dX5_back_135 : decode cX5_back 135 = .ok (.invokevirtual 132, 3) := by decide +kernel
theorem dX5_back_138 : decode cX5_back 138 = .ok (.iload 7, 2) := by decide +kernel
theorem dX5_back_140 : decode cX5_back 140 = .ok (.ifCond .eq 17, 3) := by decide +kernel
theorem dX5_back_143 : decode cX5_back 143 = .ok (.aload_n 0, 1) := by decide +kernel
theorem dX5_back_144 : decode cX5_back 144 = .ok (.aload_n 0, 1) := by decide +kernel
theorem dX5_back_145 : decode cX5_back 145 = .ok (.getfield 47, 3) := by decide +kernel
theorem dX5_back_148 : decode cX5_back 148 = .ok (.iload 6, 2) := by decide +kernel
theorem dX5_back_150 : decode cX5_back 150 = .ok (.iaload, 1) := by decide +kernel
theorem dX5_back_151 : decode cX5_back 151 = .ok (.invokevirtual 86, 3) := by decide +kernel
theorem dX5_back_154 : decode cX5_back 154 = .ok (.goto 4, 3) := by decide +kernel
theorem dX5_back_157 : decode cX5_back 157 = .ok (.iconst (-1), 1) := by decide +kernel
theorem dX5_back_158 : decode cX5_back 158 = .ok (.ireturn, 1) := by decide +kernel
set_option maxRecDepth 20000 in
theorem ggX5_lose_X5_isHouse : GoodIn wsX5_lose wsX5_isHouse := goodIn_r _ [6, 7, 8, 9, 10, 11, 12, 13, 14, 15, 16, 17, 18, 19, 20, 21, 22, 23, 24, 25, 26, 27, 28, 29, 30, 31, 32, 33] (by decide +kernel) (by decide +kernel)
set_option maxRecDepth 20000 in
theorem gX5_lose_X5_isHouse : GoodIn wsX5_lose (wsV RX5 110 RX5 yX5_isHouse wsX5_isHouse) := goodIn_app (goodIn_of _ (by decide +kernel)) ggX5_lose_X5_isHouse
theorem dX5_lose_0 : decode cX5_lose 0 = .ok (.aload_n 0, 1) := by decide +kernel
theorem dX5_lose_1 : decode cX5_lose 1 = .ok (.iload_n 1, 1) := by decide +kernel
theorem dX5_lose_2 : decode cX5_lose 2 = .ok (.invokevirtual 110, 3) := by decide +kernel
theorem dX5_lose_5 : decode cX5_lose 5 = .ok (.ifCond .eq 12, 3) := by decide +kernel
theorem dX5_lose_8 : decode cX5_lose 8 = .ok (.aload_n 0, 1) := by decide +kernel
theorem dX5_lose_9 : decode cX5_lose 9 = .ok (.getfield 38, 3) := by decide +kernel
theorem dX5_lose_12 : decode cX5_lose 12 = .ok (.iload_n 1, 1) := by decide +kernel
theorem dX5_lose_13 : decode cX5_lose 13 = .ok (.baload, 1) := by decide +kernel
theorem dX5_lose_14 : decode cX5_lose 14 = .ok (.ifCond .eq 5, 3) := by decide +kernel
theorem dX5_lose_17 : decode cX5_lose 17 = .ok (.iconst 0, 1) := by decide +kernel
theorem dX5_lose_18 : decode cX5_lose 18 = .ok (.ireturn, 1) := by decide +kernel
theorem dX5_lose_19 : decode cX5_lose 19 = .ok (.aload_n 0, 1) := by decide +kernel
theorem dX5_lose_20 : decode cX5_lose 20 = .ok (.getfield 38, 3) := by decide +kernel
theorem dX5_lose_23 : decode cX5_lose 23 = .ok (.iload_n 1, 1) := by decide +kernel
theorem dX5_lose_24 : decode cX5_lose 24 = .ok (.iconst 1, 1) := by decide +kernel
theorem dX5_lose_25 : decode cX5_lose 25 = .ok (.bastore, 1) := by decide +kernel
theorem dX5_lose_26 : decode cX5_lose 26 = .ok (.iconst 1, 1) := by decide +kernel
theorem dX5_lose_27 : decode cX5_lose 27 = .ok (.ireturn, 1) := by decide +kernel
set_option maxRecDepth 20000 in
theorem ggX5_anew_X5_isHouse : GoodIn wsX5_anew wsX5_isHouse := goodIn_r _ [7, 8, 9, 10, 11, 12, 13, 14, 15, 16, 17, 18, 19, 20, 21, 22, 23, 24, 25, 26, 27, 28, 29, 30, 31, 32, 33, 34] (by decide +kernel) (by decide +kernel)
set_option maxRecDepth 20000 in
theorem gX5_anew_X5_isHouse : GoodIn wsX5_anew (wsV RX5 110 RX5 yX5_isHouse wsX5_isHouse) := goodIn_app (goodIn_of _ (by decide +kernel)) ggX5_anew_X5_isHouse
theorem dX5_anew_0 : decode cX5_anew 0 = .ok (.aload_n 0, 1) := by decide +kernel
theorem dX5_anew_1 : decode cX5_anew 1 = .ok (.iload_n 1, 1) := by decide +kernel
theorem dX5_anew_2 : decode cX5_anew 2 = .ok (.invokevirtual 110, 3) := by decide +kernel
theorem dX5_anew_5 : decode cX5_anew 5 = .ok (.ifCond .eq 22, 3) := by decide +kernel
theorem dX5_anew_8 : decode cX5_anew 8 = .ok (.aload_n 0, 1) := by decide +kernel
theorem dX5_anew_9 : decode cX5_anew 9 = .ok (.getfield 38, 3) := by decide +kernel
theorem dX5_anew_12 : decode cX5_anew 12 = .ok (.iload_n 1, 1) := by decide +kernel
theorem dX5_anew_13 : decode cX5_anew 13 = .ok (.baload, 1) := by decide +kernel
theorem dX5_anew_14 : decode cX5_anew 14 = .ok (.ifCond .eq 13, 3) := by decide +kernel
theorem dX5_anew_17 : decode cX5_anew 17 = .ok (.aload_n 0, 1) := by decide +kernel
theorem dX5_anew_18 : decode cX5_anew 18 = .ok (.getfield 26, 3) := by decide +kernel
theorem dX5_anew_21 : decode cX5_anew 21 = .ok (.iload_n 1, 1) := by decide +kernel
theorem dX5_anew_22 : decode cX5_anew 22 = .ok (.iaload, 1) := by decide +kernel
theorem dX5_anew_23 : decode cX5_anew 23 = .ok (.iload_n 2, 1) := by decide +kernel
theorem dX5_anew_24 : decode cX5_anew 24 = .ok (.if_icmp .eq 5, 3) := by decide +kernel
theorem dX5_anew_27 : decode cX5_anew 27 = .ok (.iconst 0, 1) := by decide +kernel
theorem dX5_anew_28 : decode cX5_anew 28 = .ok (.ireturn, 1) := by decide +kernel
theorem dX5_anew_29 : decode cX5_anew 29 = .ok (.aload_n 0, 1) := by decide +kernel
theorem dX5_anew_30 : decode cX5_anew 30 = .ok (.getfield 38, 3) := by decide +kernel
theorem dX5_anew_33 : decode cX5_anew 33 = .ok (.iload_n 1, 1) := by decide +kernel
theorem dX5_anew_34 : decode cX5_anew 34 = .ok (.iconst 0, 1) := by decide +kernel
theorem dX5_anew_35 : decode cX5_anew 35 = .ok (.bastore, 1) := by decide +kernel
theorem dX5_anew_36 : decode cX5_anew 36 = .ok (.iconst 1, 1) := by decide +kernel
theorem dX5_anew_37 : decode cX5_anew 37 = .ok (.ireturn, 1) := by decide +kernel
set_option maxRecDepth 20000 in
theorem ggX5_record_X5_in : GoodIn wsX5_record wsX5_in := goodIn_r _ [6] (by decide +kernel) (by decide +kernel)
set_option maxRecDepth 20000 in
theorem gX5_record_X5_in : GoodIn wsX5_record (va_wsS RX5 82 yX5_in wsX5_in) := goodIn_app (goodIn_of _ (by decide +kernel)) ggX5_record_X5_in
theorem dX5_record_0 : decode cX5_record 0 = .ok (.iload_n 1, 1) := by decide +kernel
theorem dX5_record_1 : decode cX5_record 1 = .ok (.ifCond .lt 34, 3) := by decide +kernel
theorem dX5_record_4 : decode cX5_record 4 = .ok (.iload_n 1, 1) := by decide +kernel
theorem dX5_record_5 : decode cX5_record 5 = .ok (.aload_n 0, 1) := by decide +kernel
theorem dX5_record_6 : decode cX5_record 6 = .ok (.getfield 126, 3) := by decide +kernel
theorem dX5_record_9 : decode cX5_record 9 = .ok (.if_icmp .ge 26, 3) := by decide +kernel
theorem dX5_record_12 : decode cX5_record 12 = .ok (.iload_n 2, 1) := by decide +kernel
theorem dX5_record_13 : decode cX5_record 13 = .ok (.iconst 0, 1) := by decide +kernel
theorem dX5_record_14 : decode cX5_record 14 = .ok (.iconst 5, 1) := by decide +kernel
theorem dX5_record_15 : decode cX5_record 15 = .ok (.invokestatic 82, 3) := by decide +kernel
theorem dX5_record_18 : decode cX5_record 18 = .ok (.ifCond .eq 17, 3) := by decide +kernel
theorem dX5_record_21 : decode cX5_record 21 = .ok (.aload_n 0, 1) := by decide +kernel
theorem dX5_record_22 : decode cX5_record 22 = .ok (.getfield 68, 3) := by decide +kernel
theorem dX5_record_25 : decode cX5_record 25 = .ok (.bipush 6, 2) := by decide +kernel
theorem dX5_record_27 : decode cX5_record 27 = .ok (.iload_n 1, 1) := by decide +kernel
theorem dX5_record_28 : decode cX5_record 28 = .ok (.imul, 1) := by decide +kernel
theorem dX5_record_29 : decode cX5_record 29 = .ok (.iload_n 2, 1) := by decide +kernel
theorem dX5_record_30 : decode cX5_record 30 = .ok (.iadd, 1) := by decide +kernel
theorem dX5_record_31 : decode cX5_record 31 = .ok (.iaload, 1) := by decide +kernel
theorem dX5_record_32 : decode cX5_record 32 = .ok (.goto 4, 3) := by decide +kernel
theorem dX5_record_35 : decode cX5_record 35 = .ok (.iconst (-1), 1) := by decide +kernel
theorem dX5_record_36 : decode cX5_record 36 = .ok (.ireturn, 1) := by decide +kernel
set_option maxRecDepth 20000 in
theorem ggX5_knows_X5_head : GoodIn wsX5_knows wsX5_head := goodIn_r _ [9, 10, 11, 12, 13, 14, 15, 16, 17, 18, 19, 20, 21, 22, 23, 24, 25, 26, 27, 28, 29, 30, 31, 32, 33, 34, 35, 36] (by decide +kernel) (by decide +kernel)
set_option maxRecDepth 20000 in
theorem gX5_knows_X5_head : GoodIn wsX5_knows (wsV RX5 86 RX5 yX5_head wsX5_head) := goodIn_app (goodIn_of _ (by decide +kernel)) ggX5_knows_X5_head
theorem dX5_knows_0 : decode cX5_knows 0 = .ok (.aload_n 0, 1) := by decide +kernel
theorem dX5_knows_1 : decode cX5_knows 1 = .ok (.iload_n 2, 1) := by decide +kernel
theorem dX5_knows_2 : decode cX5_knows 2 = .ok (.invokevirtual 86, 3) := by decide +kernel
theorem dX5_knows_5 : decode cX5_knows 5 = .ok (.iload_n 2, 1) := by decide +kernel
theorem dX5_knows_6 : decode cX5_knows 6 = .ok (.if_icmp .ne 12, 3) := by decide +kernel
theorem dX5_knows_9 : decode cX5_knows 9 = .ok (.aload_n 0, 1) := by decide +kernel
theorem dX5_knows_10 : decode cX5_knows 10 = .ok (.getfield 16, 3) := by decide +kernel
theorem dX5_knows_13 : decode cX5_knows 13 = .ok (.iload_n 2, 1) := by decide +kernel
theorem dX5_knows_14 : decode cX5_knows 14 = .ok (.baload, 1) := by decide +kernel
theorem dX5_knows_15 : decode cX5_knows 15 = .ok (.ifCond .eq 5, 3) := by decide +kernel
theorem dX5_knows_18 : decode cX5_knows 18 = .ok (.iconst 0, 1) := by decide +kernel
theorem dX5_knows_19 : decode cX5_knows 19 = .ok (.ireturn, 1) := by decide +kernel
theorem dX5_knows_20 : decode cX5_knows 20 = .ok (.iconst 0, 1) := by decide +kernel
theorem dX5_knows_21 : decode cX5_knows 21 = .ok (.istore_n 3, 1) := by decide +kernel
theorem dX5_knows_22 : decode cX5_knows 22 = .ok (.iload_n 3, 1) := by decide +kernel
theorem dX5_knows_23 : decode cX5_knows 23 = .ok (.aload_n 0, 1) := by decide +kernel
theorem dX5_knows_24 : decode cX5_knows 24 = .ok (.getfield 100, 3) := by decide +kernel
theorem dX5_knows_27 : decode cX5_knows 27 = .ok (.if_icmp .ge 35, 3) := by decide +kernel
theorem dX5_knows_30 : decode cX5_knows 30 = .ok (.aload_n 0, 1) := by decide +kernel
theorem dX5_knows_31 : decode cX5_knows 31 = .ok (.getfield 41, 3) := by decide +kernel
theorem dX5_knows_34 : decode cX5_knows 34 = .ok (.iload_n 3, 1) := by decide +kernel
theorem dX5_knows_35 : decode cX5_knows 35 = .ok (.iaload, 1) := by decide +kernel
theorem dX5_knows_36 : decode cX5_knows 36 = .ok (.iload_n 1, 1) := by decide +kernel
theorem dX5_knows_37 : decode cX5_knows 37 = .ok (.if_icmp .ne 19, 3) := by decide +kernel
theorem dX5_knows_40 : decode cX5_knows 40 = .ok (.aload_n 0, 1) := by decide +kernel
theorem dX5_knows_41 : decode cX5_knows 41 = .ok (.aload_n 0, 1) := by decide +kernel
theorem dX5_knows_42 : decode cX5_knows 42 = .ok (.getfield 47, 3) := by decide +kernel
theorem dX5_knows_45 : decode cX5_knows 45 = .ok (.iload_n 3, 1) := by decide +kernel
theorem dX5_knows_46 : decode cX5_knows 46 = .ok (.iaload, 1) := by decide +kernel
theorem dX5_knows_47 : decode cX5_knows 47 = .ok (.invokevirtual 86, 3) := by decide +kernel
theorem dX5_knows_50 : decode cX5_knows 50 = .ok (.iload_n 2, 1) := by decide +kernel
theorem dX5_knows_51 : decode cX5_knows 51 = .ok (.if_icmp .ne 5, 3) := by decide +kernel
theorem dX5_knows_54 : decode cX5_knows 54 = .ok (.iconst 1, 1) := by decide +kernel
theorem dX5_knows_55 : decode cX5_knows 55 = .ok (.ireturn, 1) := by decide +kernel
theorem dX5_knows_56 : decode cX5_knows 56 = .ok (.iinc 3 1, 3) := by decide +kernel
theorem dX5_knows_59 : decode cX5_knows 59 = .ok (.goto (-37), 3) := by decide +kernel
theorem dX5_knows_62 : decode cX5_knows 62 = .ok (.iconst 0, 1) := by decide +kernel
theorem dX5_knows_63 : decode cX5_knows 63 = .ok (.ireturn, 1) := by decide +kernel
theorem dX5_areAlike_0 : decode cX5_areAlike 0 = .ok (.iconst 1, 1) := by decide +kernel
theorem dX5_areAlike_1 : decode cX5_areAlike 1 = .ok (.istore 4, 2) := by decide +kernel
theorem dX5_areAlike_3 : decode cX5_areAlike 3 = .ok (.iconst 0, 1) := by decide +kernel
theorem dX5_areAlike_4 : decode cX5_areAlike 4 = .ok (.istore 5, 2) := by decide +kernel
theorem dX5_areAlike_6 : decode cX5_areAlike 6 = .ok (.iload 5, 2) := by decide +kernel
theorem dX5_areAlike_8 : decode cX5_areAlike 8 = .ok (.iconst 4, 1) := by decide +kernel
theorem dX5_areAlike_9 : decode cX5_areAlike 9 = .ok (.if_icmp .ge 55, 3) := by decide +kernel
theorem dX5_areAlike_12 : decode cX5_areAlike 12 = .ok (.iload 4, 2) := by decide +kernel
theorem dX5_areAlike_14 : decode cX5_areAlike 14 = .ok (.ifCond .eq 41, 3) := by decide +kernel
theorem dX5_areAlike_17 : decode cX5_areAlike 17 = .ok (.iload_n 3, 1) := by decide +kernel
theorem dX5_areAlike_18 : decode cX5_areAlike 18 = .ok (.iload 5, 2) := by decide +kernel
theorem dX5_areAlike_20 : decode cX5_areAlike 20 = .ok (.ishr, 1) := by decide +kernel
theorem dX5_areAlike_21 : decode cX5_areAlike 21 = .ok (.iconst 1, 1) := by decide +kernel
theorem dX5_areAlike_22 : decode cX5_areAlike 22 = .ok (.iand, 1) := by decide +kernel
theorem dX5_areAlike_23 : decode cX5_areAlike 23 = .ok (.ifCond .eq 28, 3) := by decide +kernel
theorem dX5_areAlike_26 : decode cX5_areAlike 26 = .ok (.aload_n 0, 1) := by decide +kernel
theorem dX5_areAlike_27 : decode cX5_areAlike 27 = .ok (.getfield 7, 3) := by decide +kernel
theorem dX5_areAlike_30 : decode cX5_areAlike 30 = .ok (.iconst 4, 1) := by decide +kernel
theorem dX5_areAlike_31 : decode cX5_areAlike 31 = .ok (.iload_n 1, 1) := by decide +kernel
theorem dX5_areAlike_32 : decode cX5_areAlike 32 = .ok (.imul, 1) := by decide +kernel
theorem dX5_areAlike_33 : decode cX5_areAlike 33 = .ok (.iload 5, 2) := by decide +kernel
theorem dX5_areAlike_35 : decode cX5_areAlike 35 = .ok (.iadd, 1) := by decide +kernel
theorem dX5_areAlike_36 : decode cX5_areAlike 36 = .ok (.iaload, 1) := by decide +kernel
theorem dX5_areAlike_37 : decode cX5_areAlike 37 = .ok (.aload_n 0, 1) := by decide +kernel
theorem dX5_areAlike_38 : decode cX5_areAlike 38 = .ok (.getfield 7, 3) := by decide +kernel
theorem dX5_areAlike_41 : decode cX5_areAlike 41 = .ok (.iconst 4, 1) := by decide +kernel
theorem dX5_areAlike_42 : decode cX5_areAlike 42 = .ok (.iload_n 2, 1) := by decide +kernel
theorem dX5_areAlike_43 : decode cX5_areAlike 43 = .ok (.imul, 1) := by decide +kernel
theorem dX5_areAlike_44 : decode cX5_areAlike 44 = .ok (.iload 5, 2) := by decide +kernel
theorem dX5_areAlike_46 : decode cX5_areAlike 46 = .ok (.iadd, 1) := by decide +kernel
theorem dX5_areAlike_47 : decode cX5_areAlike 47 = .ok (.iaload, 1) := by decide +kernel
theorem dX5_areAlike_48 : decode cX5_areAlike 48 = .ok (.if_icmp .ne 7, 3) := by decide +kernel
theorem dX5_areAlike_51 : decode cX5_areAlike 51 = .ok (.iconst 1, 1) := by decide +kernel
theorem dX5_areAlike_52 : decode cX5_areAlike 52 = .ok (.goto 4, 3) := by decide +kernel
theorem dX5_areAlike_55 : decode cX5_areAlike 55 = .ok (.iconst 0, 1) := by decide +kernel
theorem dX5_areAlike_56 : decode cX5_areAlike 56 = .ok (.istore 4, 2) := by decide +kernel
theorem dX5_areAlike_58 : decode cX5_areAlike 58 = .ok (.iinc 5 1, 3) := by decide +kernel
theorem dX5_areAlike_61 : decode cX5_areAlike 61 = .ok (.goto (-55), 3) := by decide +kernel
theorem dX5_areAlike_64 : decode cX5_areAlike 64 = .ok (.iload 4, 2) := by decide +kernel
theorem dX5_areAlike_66 : decode cX5_areAlike 66 = .ok (.ireturn, 1) := by decide +kernel
set_option maxRecDepth 20000 in
theorem ggX5_group_X5_knows : GoodIn wsX5_group wsX5_knows := goodIn_r _ [6, 7, 8, 9, 10, 11, 12, 13, 5, 14, 15, 21, 22, 23, 24, 25, 26, 27, 28, 29, 30, 31, 32, 33, 34, 35, 36, 37, 38, 39, 40, 41, 42, 43, 44, 45, 46] (by decide +kernel) (by decide +kernel)
set_option maxRecDepth 20000 in
theorem gX5_group_X5_knows : GoodIn wsX5_group (wsV RX5 136 RX5 yX5_knows wsX5_knows) := goodIn_app (goodIn_of _ (by decide +kernel)) ggX5_group_X5_knows
set_option maxRecDepth 20000 in
theorem ggX5_group_X5_areAlike : GoodIn wsX5_group wsX5_areAlike := goodIn_r _ [19, 20, 21, 22, 23, 24, 25, 26, 27, 28, 29, 30, 31, 32, 33, 34, 35, 36, 37, 38, 39, 40, 41, 42, 43, 44, 45, 46] (by decide +kernel) (by decide +kernel)
set_option maxRecDepth 20000 in
theorem gX5_group_X5_areAlike : GoodIn wsX5_group (wsV RX5 140 RX5 yX5_areAlike wsX5_areAlike) := goodIn_app (goodIn_of _ (by decide +kernel)) ggX5_group_X5_areAlike
theorem dX5_group_0 : decode cX5_group 0 = .ok (.iconst 0, 1) := by decide +kernel
theorem dX5_group_1 : decode cX5_group 1 = .ok (.istore 4, 2) := by decide +kernel
theorem dX5_group_3 : decode cX5_group 3 = .ok (.iconst 0, 1) := by decide +kernel
theorem dX5_group_4 : decode cX5_group 4 = .ok (.istore 5, 2) := by decide +kernel
theorem dX5_group_6 : decode cX5_group 6 = .ok (.iload 5, 2) := by decide +kernel
theorem dX5_group_8 : decode cX5_group 8 = .ok (.aload_n 0, 1) := by decide +kernel
theorem dX5_group_9 : decode cX5_group 9 = .ok (.getfield 71, 3) := by decide +kernel
theorem dX5_group_12 : decode cX5_group 12 = .ok (.if_icmp .ge 40, 3) := by decide +kernel
theorem dX5_group_15 : decode cX5_group 15 = .ok (.iload 4, 2) := by decide +kernel
theorem dX5_group_17 : decode cX5_group 17 = .ok (.aload_n 0, 1) := by decide +kernel
theorem dX5_group_18 : decode cX5_group 18 = .ok (.iload_n 1, 1) := by decide +kernel
theorem dX5_group_19 : decode cX5_group 19 = .ok (.iload 5, 2) := by decide +kernel
theorem dX5_group_21 : decode cX5_group 21 = .ok (.invokevirtual 136, 3) := by decide +kernel
theorem dX5_group_24 : decode cX5_group 24 = .ok (.ifCond .eq 18, 3) := by decide +kernel
theorem dX5_group_27 : decode cX5_group 27 = .ok (.aload_n 0, 1) := by decide +kernel
theorem dX5_group_28 : decode cX5_group 28 = .ok (.iload_n 2, 1) := by decide +kernel
theorem dX5_group_29 : decode cX5_group 29 = .ok (.iload 5, 2) := by decide +kernel
theorem dX5_group_31 : decode cX5_group 31 = .ok (.iload_n 3, 1) := by decide +kernel
theorem dX5_group_32 : decode cX5_group 32 = .ok (.invokevirtual 140, 3) := by decide +kernel
theorem dX5_group_35 : decode cX5_group 35 = .ok (.ifCond .eq 7, 3) := by decide +kernel
theorem dX5_group_38 : decode cX5_group 38 = .ok (.iconst 1, 1) := by decide +kernel
theorem dX5_group_39 : decode cX5_group 39 = .ok (.goto 4, 3) := by decide +kernel
theorem dX5_group_42 : decode cX5_group 42 = .ok (.iconst 0, 1) := by decide +kernel
theorem dX5_group_43 : decode cX5_group 43 = .ok (.iadd, 1) := by decide +kernel
theorem dX5_group_44 : decode cX5_group 44 = .ok (.istore 4, 2) := by decide +kernel
theorem dX5_group_46 : decode cX5_group 46 = .ok (.iinc 5 1, 3) := by decide +kernel
theorem dX5_group_49 : decode cX5_group 49 = .ok (.goto (-43), 3) := by decide +kernel
theorem dX5_group_52 : decode cX5_group 52 = .ok (.iload 4, 2) := by decide +kernel
theorem dX5_group_54 : decode cX5_group 54 = .ok (.ireturn, 1) := by decide +kernel
set_option maxRecDepth 20000 in
theorem ggX5_joins_X5_isHouse : GoodIn wsX5_joins wsX5_isHouse := goodIn_r _ [6, 7, 33, 34, 35, 36, 37, 38, 39, 40, 41, 42, 43, 44, 45, 46, 47, 48, 49, 50, 51, 52, 53, 54, 55, 56, 57, 58] (by decide +kernel) (by decide +kernel)
set_option maxRecDepth 20000 in
theorem gX5_joins_X5_isHouse : GoodIn wsX5_joins (wsV RX5 110 RX5 yX5_isHouse wsX5_isHouse) := goodIn_app (goodIn_of _ (by decide +kernel)) ggX5_joins_X5_isHouse
set_option maxRecDepth 20000 in
theorem ggX5_joins_X5_in : GoodIn wsX5_joins wsX5_in := goodIn_r _ [10] (by decide +kernel) (by decide +kernel)
set_option maxRecDepth 20000 in
theorem gX5_joins_X5_in : GoodIn wsX5_joins (va_wsS RX5 82 yX5_in wsX5_in) := goodIn_app (goodIn_of _ (by decide +kernel)) ggX5_joins_X5_in
set_option maxRecDepth 20000 in
theorem ggX5_joins_X5_knows : GoodIn wsX5_joins wsX5_knows := goodIn_r _ [14, 15, 16, 17, 18, 19, 20, 21, 5, 22, 23, 33, 34, 35, 36, 37, 38, 39, 40, 41, 42, 43, 44, 45, 46, 47, 48, 49, 50, 51, 52, 53, 54, 55, 56, 57, 58] (by decide +kernel) (by decide +kernel)
set_option maxRecDepth 20000 in
theorem gX5_joins_X5_knows : GoodIn wsX5_joins (wsV RX5 136 RX5 yX5_knows wsX5_knows) := goodIn_app (goodIn_of _ (by decide +kernel)) ggX5_joins_X5_knows
set_option maxRecDepth 20000 in
theorem ggX5_joins_X5_group : GoodIn wsX5_joins wsX5_group := goodIn_r _ [27, 1, 11, 12, 13, 5, 14, 15, 16, 17, 18, 19, 20, 21, 22, 23, 28, 29, 30, 31, 32, 33, 34, 35, 36, 37, 38, 39, 40, 41, 42, 43, 44, 45, 46, 47, 48, 49, 50, 51, 52, 53, 54, 55, 56, 57, 58] (by decide +kernel) (by decide +kernel)
set_option maxRecDepth 20000 in
theorem gX5_joins_X5_group : GoodIn wsX5_joins (wsV RX5 143 RX5 yX5_group wsX5_group) := goodIn_app (goodIn_of _ (by decide +kernel)) ggX5_joins_X5_group
theorem dX5_joins_0 : decode cX5_joins 0 = .ok (.aload_n 0, 1) := by decide +kernel
theorem dX5_joins_1 : decode cX5_joins 1 = .ok (.iload_n 1, 1) := by decide +kernel
theorem dX5_joins_2 : decode cX5_joins 2 = .ok (.invokevirtual 110, 3) := by decide +kernel
theorem dX5_joins_5 : decode cX5_joins 5 = .ok (.ifCond .eq 26, 3) := by decide +kernel
theorem dX5_joins_8 : decode cX5_joins 8 = .ok (.aload_n 0, 1) := by decide +kernel
theorem dX5_joins_9 : decode cX5_joins 9 = .ok (.iload_n 2, 1) := by decide +kernel
theorem dX5_joins_10 : decode cX5_joins 10 = .ok (.invokevirtual 110, 3) := by decide +kernel
theorem dX5_joins_13 : decode cX5_joins 13 = .ok (.ifCond .eq 18, 3) := by decide +kernel
theorem dX5_joins_16 : decode cX5_joins 16 = .ok (.iload_n 1, 1) := by decide +kernel
theorem dX5_joins_17 : decode cX5_joins 17 = .ok (.iload_n 2, 1) := by decide +kernel
theorem dX5_joins_18 : decode cX5_joins 18 = .ok (.if_icmp .eq 13, 3) := by decide +kernel
theorem dX5_joins_21 : decode cX5_joins 21 = .ok (.iload_n 3, 1) := by decide +kernel
theorem dX5_joins_22 : decode cX5_joins 22 = .ok (.iconst 0, 1) := by decide +kernel
theorem dX5_joins_23 : decode cX5_joins 23 = .ok (.bipush 15, 2) := by decide +kernel
theorem dX5_joins_25 : decode cX5_joins 25 = .ok (.invokestatic 82, 3) := by decide +kernel
theorem dX5_joins_28 : decode cX5_joins 28 = .ok (.ifCond .ne 5, 3) := by decide +kernel
theorem dX5_joins_31 : decode cX5_joins 31 = .ok (.iconst (-1), 1) := by decide +kernel
theorem dX5_joins_32 : decode cX5_joins 32 = .ok (.ireturn, 1) := by decide +kernel
theorem dX5_joins_33 : decode cX5_joins 33 = .ok (.iconst 0, 1) := by decide +kernel
theorem dX5_joins_34 : decode cX5_joins 34 = .ok (.istore 4, 2) := by decide +kernel
theorem dX5_joins_36 : decode cX5_joins 36 = .ok (.iconst 0, 1) := by decide +kernel
theorem dX5_joins_37 : decode cX5_joins 37 = .ok (.istore 5, 2) := by decide +kernel
theorem dX5_joins_39 : decode cX5_joins 39 = .ok (.iload 5, 2) := by decide +kernel
theorem dX5_joins_41 : decode cX5_joins 41 = .ok (.aload_n 0, 1) := by decide +kernel
theorem dX5_joins_42 : decode cX5_joins 42 = .ok (.getfield 71, 3) := by decide +kernel
theorem dX5_joins_45 : decode cX5_joins 45 = .ok (.if_icmp .ge 63, 3) := by decide +kernel
theorem dX5_joins_48 : decode cX5_joins 48 = .ok (.iload 4, 2) := by decide +kernel
theorem dX5_joins_50 : decode cX5_joins 50 = .ok (.aload_n 0, 1) := by decide +kernel
theorem dX5_joins_51 : decode cX5_joins 51 = .ok (.iload_n 1, 1) := by decide +kernel
theorem dX5_joins_52 : decode cX5_joins 52 = .ok (.iload 5, 2) := by decide +kernel
theorem dX5_joins_54 : decode cX5_joins 54 = .ok (.invokevirtual 136, 3) := by decide +kernel
theorem dX5_joins_57 : decode cX5_joins 57 = .ok (.ifCond .eq 41, 3) := by decide +kernel
theorem dX5_joins_60 : decode cX5_joins 60 = .ok (.aload_n 0, 1) := by decide +kernel
theorem dX5_joins_61 : decode cX5_joins 61 = .ok (.iload_n 2, 1) := by decide +kernel
theorem dX5_joins_62 : decode cX5_joins 62 = .ok (.iload 5, 2) := by decide +kernel
theorem dX5_joins_64 : decode cX5_joins 64 = .ok (.invokevirtual 136, 3) := by decide +kernel
theorem dX5_joins_67 : decode cX5_joins 67 = .ok (.ifCond .eq 31, 3) := by decide +kernel
theorem dX5_joins_70 : decode cX5_joins 70 = .ok (.aload_n 0, 1) := by decide +kernel
theorem dX5_joins_71 : decode cX5_joins 71 = .ok (.iload_n 1, 1) := by decide +kernel
theorem dX5_joins_72 : decode cX5_joins 72 = .ok (.iload 5, 2) := by decide +kernel
theorem dX5_joins_74 : decode cX5_joins 74 = .ok (.iload_n 3, 1) := by decide +kernel
theorem dX5_joins_75 : decode cX5_joins 75 = .ok (.invokevirtual 143, 3) := by decide +kernel
theorem dX5_joins_78 : decode cX5_joins 78 = .ok (.iconst 1, 1) := by decide +kernel
theorem dX5_joins_79 : decode cX5_joins 79 = .ok (.if_icmp .ne 19, 3) := by decide +kernel
theorem dX5_joins_82 : decode cX5_joins 82 = .ok (.aload_n 0, 1) := by decide +kernel
theorem dX5_joins_83 : decode cX5_joins 83 = .ok (.iload_n 2, 1) := by decide +kernel
theorem dX5_joins_84 : decode cX5_joins 84 = .ok (.iload 5, 2) := by decide +kernel
theorem dX5_joins_86 : decode cX5_joins 86 = .ok (.iload_n 3, 1) := by decide +kernel
theorem dX5_joins_87 : decode cX5_joins 87 = .ok (.invokevirtual 143, 3) := by decide +kernel
theorem dX5_joins_90 : decode cX5_joins 90 = .ok (.iconst 1, 1) := by decide +kernel
theorem dX5_joins_91 : decode cX5_joins 91 = .ok (.if_icmp .ne 7, 3) := by decide +kernel
theorem dX5_joins_94 : decode cX5_joins 94 = .ok (.iconst 1, 1) := by decide +kernel
theorem dX5_joins_95 : decode cX5_joins 95 = .ok (.goto 4, 3) := by decide +kernel
theorem dX5_joins_98 : decode cX5_joins 98 = .ok (.iconst 0, 1) := by decide +kernel
theorem dX5_joins_99 : decode cX5_joins 99 = .ok (.iadd, 1) := by decide +kernel
theorem dX5_joins_100 : decode cX5_joins 100 = .ok (.istore 4, 2) := by decide +kernel
theorem dX5_joins_102 : decode cX5_joins 102 = .ok (.iinc 5 1, 3) := by decide +kernel
theorem dX5_joins_105 : decode cX5_joins 105 = .ok (.goto (-66), 3) := by decide +kernel
theorem dX5_joins_108 : decode cX5_joins 108 = .ok (.iload 4, 2) := by decide +kernel
theorem dX5_joins_110 : decode cX5_joins 110 = .ok (.ireturn, 1) := by decide +kernel
set_option maxRecDepth 20000 in
theorem ggX5_least_X5_isHouse : GoodIn wsX5_least wsX5_isHouse := goodIn_r _ [6, 7, 33, 34, 35, 36, 37, 38, 39, 40, 41, 42, 43, 44, 45, 46, 47, 48, 49, 50, 51, 52, 53, 54, 55, 56, 57, 58] (by decide +kernel) (by decide +kernel)
set_option maxRecDepth 20000 in
theorem gX5_least_X5_isHouse : GoodIn wsX5_least (wsV RX5 110 RX5 yX5_isHouse wsX5_isHouse) := goodIn_app (goodIn_of _ (by decide +kernel)) ggX5_least_X5_isHouse
set_option maxRecDepth 20000 in
theorem ggX5_least_X5_in : GoodIn wsX5_least wsX5_in := goodIn_r _ [10] (by decide +kernel) (by decide +kernel)
set_option maxRecDepth 20000 in
theorem gX5_least_X5_in : GoodIn wsX5_least (va_wsS RX5 82 yX5_in wsX5_in) := goodIn_app (goodIn_of _ (by decide +kernel)) ggX5_least_X5_in
set_option maxRecDepth 20000 in
theorem ggX5_least_X5_knows : GoodIn wsX5_least wsX5_knows := goodIn_r _ [14, 15, 16, 17, 18, 19, 20, 21, 5, 22, 23, 33, 34, 35, 36, 37, 38, 39, 40, 41, 42, 43, 44, 45, 46, 47, 48, 49, 50, 51, 52, 53, 54, 55, 56, 57, 58] (by decide +kernel) (by decide +kernel)
set_option maxRecDepth 20000 in
theorem gX5_least_X5_knows : GoodIn wsX5_least (wsV RX5 136 RX5 yX5_knows wsX5_knows) := goodIn_app (goodIn_of _ (by decide +kernel)) ggX5_least_X5_knows
set_option maxRecDepth 20000 in
theorem ggX5_least_X5_group : GoodIn wsX5_least wsX5_group := goodIn_r _ [27, 1, 11, 12, 13, 5, 14, 15, 16, 17, 18, 19, 20, 21, 22, 23, 28, 29, 30, 31, 32, 33, 34, 35, 36, 37, 38, 39, 40, 41, 42, 43, 44, 45, 46, 47, 48, 49, 50, 51, 52, 53, 54, 55, 56, 57, 58] (by decide +kernel) (by decide +kernel)
set_option maxRecDepth 20000 in
theorem gX5_least_X5_group : GoodIn wsX5_least (wsV RX5 143 RX5 yX5_group wsX5_group) := goodIn_app (goodIn_of _ (by decide +kernel)) ggX5_least_X5_group
theorem dX5_least_0 : decode cX5_least 0 = .ok (.aload_n 0, 1) := by decide +kernel
theorem dX5_least_1 : decode cX5_least 1 = .ok (.iload_n 1, 1) := by decide +kernel
theorem dX5_least_2 : decode cX5_least 2 = .ok (.invokevirtual 110, 3) := by decide +kernel
theorem dX5_least_5 : decode cX5_least 5 = .ok (.ifCond .eq 13, 3) := by decide +kernel
theorem dX5_least_8 : decode cX5_least 8 = .ok (.iload_n 2, 1) := by decide +kernel
theorem dX5_least_9 : decode cX5_least 9 = .ok (.iconst 0, 1) := by decide +kernel
theorem dX5_least_10 : decode cX5_least 10 = .ok (.bipush 15, 2) := by decide +kernel
theorem dX5_least_12 : decode cX5_least 12 = .ok (.invokestatic 82, 3) := by decide +kernel
theorem dX5_least_15 : decode cX5_least 15 = .ok (.ifCond .ne 5, 3) := by decide +kernel
theorem dX5_least_18 : decode cX5_least 18 = .ok (.iconst (-1), 1) := by decide +kernel
theorem dX5_least_19 : decode cX5_least 19 = .ok (.ireturn, 1) := by decide +kernel
theorem dX5_least_20 : decode cX5_least 20 = .ok (.iconst 0, 1) := by decide +kernel
theorem dX5_least_21 : decode cX5_least 21 = .ok (.istore_n 3, 1) := by decide +kernel
theorem dX5_least_22 : decode cX5_least 22 = .ok (.iconst 0, 1) := by decide +kernel
theorem dX5_least_23 : decode cX5_least 23 = .ok (.istore 4, 2) := by decide +kernel
theorem dX5_least_25 : decode cX5_least 25 = .ok (.iload 4, 2) := by decide +kernel
theorem dX5_least_27 : decode cX5_least 27 = .ok (.aload_n 0, 1) := by decide +kernel
theorem dX5_least_28 : decode cX5_least 28 = .ok (.getfield 71, 3) := by decide +kernel
theorem dX5_least_31 : decode cX5_least 31 = .ok (.if_icmp .ge 49, 3) := by decide +kernel
theorem dX5_least_34 : decode cX5_least 34 = .ok (.aload_n 0, 1) := by decide +kernel
theorem dX5_least_35 : decode cX5_least 35 = .ok (.iload_n 1, 1) := by decide +kernel
theorem dX5_least_36 : decode cX5_least 36 = .ok (.iload 4, 2) := by decide +kernel
theorem dX5_least_38 : decode cX5_least 38 = .ok (.invokevirtual 136, 3) := by decide +kernel
theorem dX5_least_41 : decode cX5_least 41 = .ok (.ifCond .ne 6, 3) := by decide +kernel
theorem dX5_least_44 : decode cX5_least 44 = .ok (.goto 30, 3) := by decide +kernel
theorem dX5_least_47 : decode cX5_least 47 = .ok (.aload_n 0, 1) := by decide +kernel
theorem dX5_least_48 : decode cX5_least 48 = .ok (.iload_n 1, 1) := by decide +kernel
theorem dX5_least_49 : decode cX5_least 49 = .ok (.iload 4, 2) := by decide +kernel
theorem dX5_least_51 : decode cX5_least 51 = .ok (.iload_n 2, 1) := by decide +kernel
theorem dX5_least_52 : decode cX5_least 52 = .ok (.invokevirtual 143, 3) := by decide +kernel
theorem dX5_least_55 : decode cX5_least 55 = .ok (.istore 5, 2) := by decide +kernel
theorem dX5_least_57 : decode cX5_least 57 = .ok (.iload_n 3, 1) := by decide +kernel
theorem dX5_least_58 : decode cX5_least 58 = .ok (.ifCond .eq 9, 3) := by decide +kernel
theorem dX5_least_61 : decode cX5_least 61 = .ok (.iload 5, 2) := by decide +kernel
theorem dX5_least_63 : decode cX5_least 63 = .ok (.iload_n 3, 1) := by decide +kernel
theorem dX5_least_64 : decode cX5_least 64 = .ok (.if_icmp .ge 8, 3) := by decide +kernel
theorem dX5_least_67 : decode cX5_least 67 = .ok (.iload 5, 2) := by decide +kernel
theorem dX5_least_69 : decode cX5_least 69 = .ok (.goto 4, 3) := by decide +kernel
theorem dX5_least_72 : decode cX5_least 72 = .ok (.iload_n 3, 1) := by decide +kernel
theorem dX5_least_73 : decode cX5_least 73 = .ok (.istore_n 3, 1) := by decide +kernel
theorem dX5_least_74 : decode cX5_least 74 = .ok (.iinc 4 1, 3) := by decide +kernel
theorem dX5_least_77 : decode cX5_least 77 = .ok (.goto (-52), 3) := by decide +kernel
theorem dX5_least_80 : decode cX5_least 80 = .ok (.iload_n 3, 1) := by decide +kernel
theorem dX5_least_81 : decode cX5_least 81 = .ok (.ireturn, 1) := by decide +kernel
set_option maxRecDepth 20000 in
theorem ggX5_count_X5_isHouse : GoodIn wsX5_count wsX5_isHouse := goodIn_r _ [8, 9, 29, 30, 31, 32, 33, 34, 35, 36, 37, 38, 39, 40, 41, 42, 43, 44, 45, 46, 47, 48, 49, 50, 51, 52, 53, 54] (by decide +kernel) (by decide +kernel)
set_option maxRecDepth 20000 in
theorem gX5_count_X5_isHouse : GoodIn wsX5_count (wsV RX5 110 RX5 yX5_isHouse wsX5_isHouse) := goodIn_app (goodIn_of _ (by decide +kernel)) ggX5_count_X5_isHouse
set_option maxRecDepth 20000 in
theorem ggX5_count_X5_in : GoodIn wsX5_count wsX5_in := goodIn_r _ [12] (by decide +kernel) (by decide +kernel)
set_option maxRecDepth 20000 in
theorem gX5_count_X5_in : GoodIn wsX5_count (va_wsS RX5 82 yX5_in wsX5_in) := goodIn_app (goodIn_of _ (by decide +kernel)) ggX5_count_X5_in
set_option maxRecDepth 20000 in
theorem ggX5_count_X5_isMark : GoodIn wsX5_count wsX5_isMark := goodIn_r _ [15] (by decide +kernel) (by decide +kernel)
set_option maxRecDepth 20000 in
theorem gX5_count_X5_isMark : GoodIn wsX5_count (va_wsS RX5 75 yX5_isMark wsX5_isMark) := goodIn_app (goodIn_of _ (by decide +kernel)) ggX5_count_X5_isMark
set_option maxRecDepth 20000 in
theorem ggX5_count_X5_knows : GoodIn wsX5_count wsX5_knows := goodIn_r _ [19, 20, 21, 22, 23, 24, 25, 26, 7, 27, 28, 29, 30, 31, 32, 33, 34, 35, 36, 37, 38, 39, 40, 41, 42, 43, 44, 45, 46, 47, 48, 49, 50, 51, 52, 53, 54] (by decide +kernel) (by decide +kernel)
set_option maxRecDepth 20000 in
theorem gX5_count_X5_knows : GoodIn wsX5_count (wsV RX5 136 RX5 yX5_knows wsX5_knows) := goodIn_app (goodIn_of _ (by decide +kernel)) ggX5_count_X5_knows
theorem dX5_count_0 : decode cX5_count 0 = .ok (.aload_n 0, 1) := by decide +kernel
theorem dX5_count_1 : decode cX5_count 1 = .ok (.iload_n 1, 1) := by decide +kernel
theorem dX5_count_2 : decode cX5_count 2 = .ok (.invokevirtual 110, 3) := by decide +kernel
theorem dX5_count_5 : decode cX5_count 5 = .ok (.ifCond .eq 19, 3) := by decide +kernel
theorem dX5_count_8 : decode cX5_count 8 = .ok (.iload_n 2, 1) := by decide +kernel
theorem dX5_count_9 : decode cX5_count 9 = .ok (.iconst 0, 1) := by decide +kernel
theorem dX5_count_10 : decode cX5_count 10 = .ok (.iconst 3, 1) := by decide +kernel
theorem dX5_count_11 : decode cX5_count 11 = .ok (.invokestatic 82, 3) := by decide +kernel
theorem dX5_count_14 : decode cX5_count 14 = .ok (.ifCond .eq 10, 3) := by decide +kernel
theorem dX5_count_17 : decode cX5_count 17 = .ok (.iload_n 3, 1) := by decide +kernel
theorem dX5_count_18 : decode cX5_count 18 = .ok (.invokestatic 75, 3) := by decide +kernel
theorem dX5_count_21 : decode cX5_count 21 = .ok (.ifCond .ne 5, 3) := by decide +kernel
theorem dX5_count_24 : decode cX5_count 24 = .ok (.iconst (-1), 1) := by decide +kernel
theorem dX5_count_25 : decode cX5_count 25 = .ok (.ireturn, 1) := by decide +kernel
theorem dX5_count_26 : decode cX5_count 26 = .ok (.iconst 0, 1) := by decide +kernel
theorem dX5_count_27 : decode cX5_count 27 = .ok (.istore 4, 2) := by decide +kernel
theorem dX5_count_29 : decode cX5_count 29 = .ok (.iconst 0, 1) := by decide +kernel
theorem dX5_count_30 : decode cX5_count 30 = .ok (.istore 5, 2) := by decide +kernel
theorem dX5_count_32 : decode cX5_count 32 = .ok (.iconst 0, 1) := by decide +kernel
theorem dX5_count_33 : decode cX5_count 33 = .ok (.istore 6, 2) := by decide +kernel
theorem dX5_count_35 : decode cX5_count 35 = .ok (.iload 6, 2) := by decide +kernel
theorem dX5_count_37 : decode cX5_count 37 = .ok (.aload_n 0, 1) := by decide +kernel
theorem dX5_count_38 : decode cX5_count 38 = .ok (.getfield 71, 3) := by decide +kernel
theorem dX5_count_41 : decode cX5_count 41 = .ok (.if_icmp .ge 52, 3) := by decide +kernel
theorem dX5_count_44 : decode cX5_count 44 = .ok (.aload_n 0, 1) := by decide +kernel
theorem dX5_count_45 : decode cX5_count 45 = .ok (.iload_n 1, 1) := by decide +kernel
theorem dX5_count_46 : decode cX5_count 46 = .ok (.iload 6, 2) := by decide +kernel
theorem dX5_count_48 : decode cX5_count 48 = .ok (.invokevirtual 136, 3) := by decide +kernel
theorem dX5_count_51 : decode cX5_count 51 = .ok (.ifCond .ne 6, 3) := by decide +kernel
theorem dX5_count_54 : decode cX5_count 54 = .ok (.goto 33, 3) := by decide +kernel
theorem dX5_count_57 : decode cX5_count 57 = .ok (.aload_n 0, 1) := by decide +kernel
theorem dX5_count_58 : decode cX5_count 58 = .ok (.getfield 7, 3) := by decide +kernel
theorem dX5_count_61 : decode cX5_count 61 = .ok (.iconst 4, 1) := by decide +kernel
theorem dX5_count_62 : decode cX5_count 62 = .ok (.iload 6, 2) := by decide +kernel
theorem dX5_count_64 : decode cX5_count 64 = .ok (.imul, 1) := by decide +kernel
theorem dX5_count_65 : decode cX5_count 65 = .ok (.iload_n 2, 1) := by decide +kernel
theorem dX5_count_66 : decode cX5_count 66 = .ok (.iadd, 1) := by decide +kernel
theorem dX5_count_67 : decode cX5_count 67 = .ok (.iaload, 1) := by decide +kernel
theorem dX5_count_68 : decode cX5_count 68 = .ok (.iload_n 3, 1) := by decide +kernel
theorem dX5_count_69 : decode cX5_count 69 = .ok (.if_icmp .ne 12, 3) := by decide +kernel
theorem dX5_count_72 : decode cX5_count 72 = .ok (.iload 4, 2) := by decide +kernel
theorem dX5_count_74 : decode cX5_count 74 = .ok (.iconst 1, 1) := by decide +kernel
theorem dX5_count_75 : decode cX5_count 75 = .ok (.iadd, 1) := by decide +kernel
theorem dX5_count_76 : decode cX5_count 76 = .ok (.istore 4, 2) := by decide +kernel
theorem dX5_count_78 : decode cX5_count 78 = .ok (.goto 9, 3) := by decide +kernel
theorem dX5_count_81 : decode cX5_count 81 = .ok (.iload 5, 2) := by decide +kernel
theorem dX5_count_83 : decode cX5_count 83 = .ok (.iconst 1, 1) := by decide +kernel
theorem dX5_count_84 : decode cX5_count 84 = .ok (.iadd, 1) := by decide +kernel
theorem dX5_count_85 : decode cX5_count 85 = .ok (.istore 5, 2) := by decide +kernel
theorem dX5_count_87 : decode cX5_count 87 = .ok (.iinc 6 1, 3) := by decide +kernel
theorem dX5_count_90 : decode cX5_count 90 = .ok (.goto (-55), 3) := by decide +kernel
theorem dX5_count_93 : decode cX5_count 93 = .ok (.iload 4, 2) := by decide +kernel
theorem dX5_count_95 : decode cX5_count 95 = .ok (.ifCond .eq 14, 3) := by decide +kernel
theorem dX5_count_98 : decode cX5_count 98 = .ok (.iload 4, 2) := by decide +kernel
theorem dX5_count_100 : decode cX5_count 100 = .ok (.aload_n 0, 1) := by decide +kernel
theorem dX5_count_101 : decode cX5_count 101 = .ok (.getfield 32, 3) := by decide +kernel
theorem dX5_count_104 : decode cX5_count 104 = .ok (.iload_n 1, 1) := by decide +kernel
theorem dX5_count_105 : decode cX5_count 105 = .ok (.iaload, 1) := by decide +kernel
theorem dX5_count_106 : decode cX5_count 106 = .ok (.if_icmp .lt 19, 3) := by decide +kernel
theorem dX5_count_109 : decode cX5_count 109 = .ok (.iload 5, 2) := by decide +kernel
theorem dX5_count_111 : decode cX5_count 111 = .ok (.ifCond .eq 18, 3) := by decide +kernel
theorem dX5_count_114 : decode cX5_count 114 = .ok (.iload 5, 2) := by decide +kernel
theorem dX5_count_116 : decode cX5_count 116 = .ok (.aload_n 0, 1) := by decide +kernel
theorem dX5_count_117 : decode cX5_count 117 = .ok (.getfield 32, 3) := by decide +kernel
theorem dX5_count_120 : decode cX5_count 120 = .ok (.iload_n 1, 1) := by decide +kernel
theorem dX5_count_121 : decode cX5_count 121 = .ok (.iaload, 1) := by decide +kernel
theorem dX5_count_122 : decode cX5_count 122 = .ok (.if_icmp .ge 7, 3) := by decide +kernel
theorem dX5_count_125 : decode cX5_count 125 = .ok (.iconst 1, 1) := by decide +kernel
theorem dX5_count_126 : decode cX5_count 126 = .ok (.goto 4, 3) := by decide +kernel
theorem dX5_count_129 : decode cX5_count 129 = .ok (.iconst 0, 1) := by decide +kernel
theorem dX5_count_130 : decode cX5_count 130 = .ok (.istore 6, 2) := by decide +kernel
theorem dX5_count_132 : decode cX5_count 132 = .ok (.iload 6, 2) := by decide +kernel
theorem dX5_count_134 : decode cX5_count 134 = .ok (.ifCond .eq 8, 3) := by decide +kernel
theorem dX5_count_137 : decode cX5_count 137 = .ok (.bipush (-2), 2) := by decide +kernel
theorem dX5_count_139 : decode cX5_count 139 = .ok (.goto 5, 3) := by decide +kernel
theorem dX5_count_142 : decode cX5_count 142 = .ok (.iload 4, 2) := by decide +kernel
theorem dX5_count_144 : decode cX5_count 144 = .ok (.ireturn, 1) := by decide +kernel
theorem dX5_given_0 : decode cX5_given 0 = .ok (.iload_n 1, 1) := by decide +kernel
theorem dX5_given_1 : decode cX5_given 1 = .ok (.ifCond .lt 11, 3) := by decide +kernel
theorem dX5_given_4 : decode cX5_given 4 = .ok (.iload_n 1, 1) := by decide +kernel
theorem dX5_given_5 : decode cX5_given 5 = .ok (.aload_n 0, 1) := by decide +kernel
theorem dX5_given_6 : decode cX5_given 6 = .ok (.getfield 100, 3) := by decide +kernel
theorem dX5_given_9 : decode cX5_given 9 = .ok (.if_icmp .lt 5, 3) := by decide +kernel
theorem dX5_given_12 : decode cX5_given 12 = .ok (.iconst (-1), 1) := by decide +kernel
theorem dX5_given_13 : decode cX5_given 13 = .ok (.ireturn, 1) := by decide +kernel
theorem dX5_given_14 : decode cX5_given 14 = .ok (.iload_n 2, 1) := by decide +kernel
theorem dX5_given_15 : decode cX5_given 15 = .ok (.tableswitch 68 0 4 #[33, 40, 47, 54, 61], 33) := by decide +kernel
theorem dX5_given_48 : decode cX5_given 48 = .ok (.aload_n 0, 1) := by decide +kernel
theorem dX5_given_49 : decode cX5_given 49 = .ok (.getfield 41, 3) := by decide +kernel
theorem dX5_given_52 : decode cX5_given 52 = .ok (.iload_n 1, 1) := by decide +kernel
theorem dX5_given_53 : decode cX5_given 53 = .ok (.iaload, 1) := by decide +kernel
theorem dX5_given_54 : decode cX5_given 54 = .ok (.ireturn, 1) := by decide +kernel
theorem dX5_given_55 : decode cX5_given 55 = .ok (.aload_n 0, 1) := by decide +kernel
theorem dX5_given_56 : decode cX5_given 56 = .ok (.getfield 44, 3) := by decide +kernel
theorem dX5_given_59 : decode cX5_given 59 = .ok (.iload_n 1, 1) := by decide +kernel
theorem dX5_given_60 : decode cX5_given 60 = .ok (.iaload, 1) := by decide +kernel
theorem dX5_given_61 : decode cX5_given 61 = .ok (.ireturn, 1) := by decide +kernel
theorem dX5_given_62 : decode cX5_given 62 = .ok (.aload_n 0, 1) := by decide +kernel
theorem dX5_given_63 : decode cX5_given 63 = .ok (.getfield 47, 3) := by decide +kernel
theorem dX5_given_66 : decode cX5_given 66 = .ok (.iload_n 1, 1) := by decide +kernel
theorem dX5_given_67 : decode cX5_given 67 = .ok (.iaload, 1) := by decide +kernel
theorem dX5_given_68 : decode cX5_given 68 = .ok (.ireturn, 1) := by decide +kernel
theorem dX5_given_69 : decode cX5_given 69 = .ok (.aload_n 0, 1) := by decide +kernel
theorem dX5_given_70 : decode cX5_given 70 = .ok (.getfield 50, 3) := by decide +kernel
theorem dX5_given_73 : decode cX5_given 73 = .ok (.iload_n 1, 1) := by decide +kernel
theorem dX5_given_74 : decode cX5_given 74 = .ok (.iaload, 1) := by decide +kernel
theorem dX5_given_75 : decode cX5_given 75 = .ok (.ireturn, 1) := by decide +kernel
theorem dX5_given_76 : decode cX5_given 76 = .ok (.aload_n 0, 1) := by decide +kernel
theorem dX5_given_77 : decode cX5_given 77 = .ok (.getfield 53, 3) := by decide +kernel
theorem dX5_given_80 : decode cX5_given 80 = .ok (.iload_n 1, 1) := by decide +kernel
theorem dX5_given_81 : decode cX5_given 81 = .ok (.iaload, 1) := by decide +kernel
theorem dX5_given_82 : decode cX5_given 82 = .ok (.ireturn, 1) := by decide +kernel
theorem dX5_given_83 : decode cX5_given 83 = .ok (.iconst (-1), 1) := by decide +kernel
theorem dX5_given_84 : decode cX5_given 84 = .ok (.ireturn, 1) := by decide +kernel
set_option maxRecDepth 20000 in
theorem ggX5_look_X5_isPerson : GoodIn wsX5_look wsX5_isPerson := goodIn_r _ [10, 11, 16, 17, 18, 19, 20, 21, 22, 23, 24, 25, 26, 27, 28, 29, 30, 31, 32, 33, 34, 35, 36, 37, 38, 39, 40, 41] (by decide +kernel) (by decide +kernel)
set_option maxRecDepth 20000 in
theorem gX5_look_X5_isPerson : GoodIn wsX5_look (wsV RX5 79 RX5 yX5_isPerson wsX5_isPerson) := goodIn_app (goodIn_of _ (by decide +kernel)) ggX5_look_X5_isPerson
set_option maxRecDepth 20000 in
theorem ggX5_look_X5_head : GoodIn wsX5_look wsX5_head := goodIn_r _ [15, 1, 16, 17, 18, 19, 20, 21, 22, 23, 24, 25, 26, 27, 28, 29, 30, 31, 32, 33, 34, 35, 36, 37, 38, 39, 40, 41] (by decide +kernel) (by decide +kernel)
set_option maxRecDepth 20000 in
theorem gX5_look_X5_head : GoodIn wsX5_look (wsV RX5 86 RX5 yX5_head wsX5_head) := goodIn_app (goodIn_of _ (by decide +kernel)) ggX5_look_X5_head
theorem dX5_look_0 : decode cX5_look 0 = .ok (.aload_n 0, 1) := by decide +kernel
theorem dX5_look_1 : decode cX5_look 1 = .ok (.iload_n 1, 1) := by decide +kernel
theorem dX5_look_2 : decode cX5_look 2 = .ok (.invokevirtual 79, 3) := by decide +kernel
theorem dX5_look_5 : decode cX5_look 5 = .ok (.ifCond .ne 5, 3) := by decide +kernel
theorem dX5_look_8 : decode cX5_look 8 = .ok (.iconst (-1), 1) := by decide +kernel
theorem dX5_look_9 : decode cX5_look 9 = .ok (.ireturn, 1) := by decide +kernel
theorem dX5_look_10 : decode cX5_look 10 = .ok (.iconst 0, 1) := by decide +kernel
theorem dX5_look_11 : decode cX5_look 11 = .ok (.istore_n 3, 1) := by decide +kernel
theorem dX5_look_12 : decode cX5_look 12 = .ok (.iload_n 2, 1) := by decide +kernel
theorem dX5_look_13 : decode cX5_look 13 = .ok (.tableswitch 127 0 7 #[47, 53, 60, 75, 114, 114, 114, 114], 47) := by decide +kernel
theorem dX5_look_60 : decode cX5_look 60 = .ok (.aload_n 0, 1) := by decide +kernel
theorem dX5_look_61 : decode cX5_look 61 = .ok (.iload_n 1, 1) := by decide +kernel
theorem dX5_look_62 : decode cX5_look 62 = .ok (.invokevirtual 86, 3) := by decide +kernel
theorem dX5_look_65 : decode cX5_look 65 = .ok (.ireturn, 1) := by decide +kernel
theorem dX5_look_66 : decode cX5_look 66 = .ok (.aload_n 0, 1) := by decide +kernel
theorem dX5_look_67 : decode cX5_look 67 = .ok (.getfield 13, 3) := by decide +kernel
theorem dX5_look_70 : decode cX5_look 70 = .ok (.iload_n 1, 1) := by decide +kernel
theorem dX5_look_71 : decode cX5_look 71 = .ok (.iaload, 1) := by decide +kernel
theorem dX5_look_72 : decode cX5_look 72 = .ok (.ireturn, 1) := by decide +kernel
theorem dX5_look_73 : decode cX5_look 73 = .ok (.aload_n 0, 1) := by decide +kernel
theorem dX5_look_74 : decode cX5_look 74 = .ok (.getfield 16, 3) := by decide +kernel
theorem dX5_look_77 : decode cX5_look 77 = .ok (.iload_n 1, 1) := by decide +kernel
theorem dX5_look_78 : decode cX5_look 78 = .ok (.baload, 1) := by decide +kernel
theorem dX5_look_79 : decode cX5_look 79 = .ok (.ifCond .eq 7, 3) := by decide +kernel
theorem dX5_look_82 : decode cX5_look 82 = .ok (.iconst 1, 1) := by decide +kernel
theorem dX5_look_83 : decode cX5_look 83 = .ok (.goto 4, 3) := by decide +kernel
theorem dX5_look_86 : decode cX5_look 86 = .ok (.iconst 0, 1) := by decide +kernel
theorem dX5_look_87 : decode cX5_look 87 = .ok (.ireturn, 1) := by decide +kernel
theorem dX5_look_88 : decode cX5_look 88 = .ok (.iconst 0, 1) := by decide +kernel
theorem dX5_look_89 : decode cX5_look 89 = .ok (.istore 4, 2) := by decide +kernel
theorem dX5_look_91 : decode cX5_look 91 = .ok (.iload 4, 2) := by decide +kernel
theorem dX5_look_93 : decode cX5_look 93 = .ok (.aload_n 0, 1) := by decide +kernel
theorem dX5_look_94 : decode cX5_look 94 = .ok (.getfield 100, 3) := by decide +kernel
theorem dX5_look_97 : decode cX5_look 97 = .ok (.if_icmp .ge 28, 3) := by decide +kernel
theorem dX5_look_100 : decode cX5_look 100 = .ok (.iload_n 3, 1) := by decide +kernel
theorem dX5_look_101 : decode cX5_look 101 = .ok (.aload_n 0, 1) := by decide +kernel
theorem dX5_look_102 : decode cX5_look 102 = .ok (.getfield 47, 3) := by decide +kernel
theorem dX5_look_105 : decode cX5_look 105 = .ok (.iload 4, 2) := by decide +kernel
theorem dX5_look_107 : decode cX5_look 107 = .ok (.iaload, 1) := by decide +kernel
theorem dX5_look_108 : decode cX5_look 108 = .ok (.iload_n 1, 1) := by decide +kernel
theorem dX5_look_109 : decode cX5_look 109 = .ok (.if_icmp .ne 7, 3) := by decide +kernel
theorem dX5_look_112 : decode cX5_look 112 = .ok (.iconst 1, 1) := by decide +kernel
theorem dX5_look_113 : decode cX5_look 113 = .ok (.goto 4, 3) := by decide +kernel
theorem dX5_look_116 : decode cX5_look 116 = .ok (.iconst 0, 1) := by decide +kernel
theorem dX5_look_117 : decode cX5_look 117 = .ok (.iadd, 1) := by decide +kernel
theorem dX5_look_118 : decode cX5_look 118 = .ok (.istore_n 3, 1) := by decide +kernel
theorem dX5_look_119 : decode cX5_look 119 = .ok (.iinc 4 1, 3) := by decide +kernel
theorem dX5_look_122 : decode cX5_look 122 = .ok (.goto (-31), 3) := by decide +kernel
theorem dX5_look_125 : decode cX5_look 125 = .ok (.iload_n 3, 1) := by decide +kernel
theorem dX5_look_126 : decode cX5_look 126 = .ok (.ireturn, 1) := by decide +kernel
theorem dX5_look_127 : decode cX5_look 127 = .ok (.aload_n 0, 1) := by decide +kernel
theorem dX5_look_128 : decode cX5_look 128 = .ok (.getfield 7, 3) := by decide +kernel
theorem dX5_look_131 : decode cX5_look 131 = .ok (.iconst 4, 1) := by decide +kernel
theorem dX5_look_132 : decode cX5_look 132 = .ok (.iload_n 1, 1) := by decide +kernel
theorem dX5_look_133 : decode cX5_look 133 = .ok (.imul, 1) := by decide +kernel
theorem dX5_look_134 : decode cX5_look 134 = .ok (.iload_n 2, 1) := by decide +kernel
theorem dX5_look_135 : decode cX5_look 135 = .ok (.iadd, 1) := by decide +kernel
theorem dX5_look_136 : decode cX5_look 136 = .ok (.iconst 4, 1) := by decide +kernel
theorem dX5_look_137 : decode cX5_look 137 = .ok (.isub, 1) := by decide +kernel
theorem dX5_look_138 : decode cX5_look 138 = .ok (.iaload, 1) := by decide +kernel
theorem dX5_look_139 : decode cX5_look 139 = .ok (.ireturn, 1) := by decide +kernel
theorem dX5_look_140 : decode cX5_look 140 = .ok (.iconst (-1), 1) := by decide +kernel
theorem dX5_look_141 : decode cX5_look 141 = .ok (.ireturn, 1) := by decide +kernel
set_option maxRecDepth 20000 in
theorem ggX5_known_X5_knows : GoodIn wsX5_known wsX5_knows := goodIn_r _ [6, 7, 8, 9, 10, 11, 12, 13, 5, 14, 15, 16, 17, 18, 19, 20, 21, 22, 23, 24, 25, 26, 27, 28, 29, 30, 31, 32, 33, 34, 35, 36, 37, 38, 39, 40, 41] (by decide +kernel) (by decide +kernel)
set_option maxRecDepth 20000 in
theorem gX5_known_X5_knows : GoodIn wsX5_known (wsV RX5 136 RX5 yX5_knows wsX5_knows) := goodIn_app (goodIn_of _ (by decide +kernel)) ggX5_known_X5_knows
theorem dX5_known_0 : decode cX5_known 0 = .ok (.iconst 0, 1) := by decide +kernel
theorem dX5_known_1 : decode cX5_known 1 = .ok (.istore_n 2, 1) := by decide +kernel
theorem dX5_known_2 : decode cX5_known 2 = .ok (.iconst 0, 1) := by decide +kernel
theorem dX5_known_3 : decode cX5_known 3 = .ok (.istore_n 3, 1) := by decide +kernel
theorem dX5_known_4 : decode cX5_known 4 = .ok (.iload_n 3, 1) := by decide +kernel
theorem dX5_known_5 : decode cX5_known 5 = .ok (.aload_n 0, 1) := by decide +kernel
theorem dX5_known_6 : decode cX5_known 6 = .ok (.getfield 71, 3) := by decide +kernel
theorem dX5_known_9 : decode cX5_known 9 = .ok (.if_icmp .ge 26, 3) := by decide +kernel
theorem dX5_known_12 : decode cX5_known 12 = .ok (.iload_n 2, 1) := by decide +kernel
theorem dX5_known_13 : decode cX5_known 13 = .ok (.aload_n 0, 1) := by decide +kernel
theorem dX5_known_14 : decode cX5_known 14 = .ok (.iload_n 1, 1) := by decide +kernel
theorem dX5_known_15 : decode cX5_known 15 = .ok (.iload_n 3, 1) := by decide +kernel
theorem dX5_known_16 : decode cX5_known 16 = .ok (.invokevirtual 136, 3) := by decide +kernel
theorem dX5_known_19 : decode cX5_known 19 = .ok (.ifCond .eq 7, 3) := by decide +kernel
theorem dX5_known_22 : decode cX5_known 22 = .ok (.iconst 1, 1) := by decide +kernel
theorem dX5_known_23 : decode cX5_known 23 = .ok (.goto 4, 3) := by decide +kernel
theorem dX5_known_26 : decode cX5_known 26 = .ok (.iconst 0, 1) := by decide +kernel
theorem dX5_known_27 : decode cX5_known 27 = .ok (.iadd, 1) := by decide +kernel
theorem dX5_known_28 : decode cX5_known 28 = .ok (.istore_n 2, 1) := by decide +kernel
theorem dX5_known_29 : decode cX5_known 29 = .ok (.iinc 3 1, 3) := by decide +kernel
theorem dX5_known_32 : decode cX5_known 32 = .ok (.goto (-28), 3) := by decide +kernel
theorem dX5_known_35 : decode cX5_known 35 = .ok (.iload_n 2, 1) := by decide +kernel
theorem dX5_known_36 : decode cX5_known 36 = .ok (.ireturn, 1) := by decide +kernel
set_option maxRecDepth 20000 in
theorem ggX5_tell_X5_known : GoodIn wsX5_tell wsX5_known := goodIn_r _ [13, 1, 14, 15, 16, 12, 17, 18, 4, 19, 20, 21, 22, 23, 24, 25, 26, 27, 28, 29, 30, 31, 32, 33, 34, 35, 36, 37, 38, 39, 40, 41, 42, 43, 44, 45, 46, 47, 48, 49, 50, 51] (by decide +kernel) (by decide +kernel)
set_option maxRecDepth 20000 in
theorem gX5_tell_X5_known : GoodIn wsX5_tell (wsV RX5 146 RX5 yX5_known wsX5_known) := goodIn_app (goodIn_of _ (by decide +kernel)) ggX5_tell_X5_known
theorem dX5_tell_0 : decode cX5_tell 0 = .ok (.iload_n 1, 1) := by decide +kernel
theorem dX5_tell_1 : decode cX5_tell 1 = .ok (.tableswitch 69 0 5 #[39, 44, 49, 54, 59, 64], 39) := by decide +kernel
theorem dX5_tell_40 : decode cX5_tell 40 = .ok (.aload_n 0, 1) := by decide +kernel
theorem dX5_tell_41 : decode cX5_tell 41 = .ok (.getfield 71, 3) := by decide +kernel
theorem dX5_tell_44 : decode cX5_tell 44 = .ok (.ireturn, 1) := by decide +kernel
theorem dX5_tell_45 : decode cX5_tell 45 = .ok (.aload_n 0, 1) := by decide +kernel
theorem dX5_tell_46 : decode cX5_tell 46 = .ok (.getfield 97, 3) := by decide +kernel
theorem dX5_tell_49 : decode cX5_tell 49 = .ok (.ireturn, 1) := by decide +kernel
theorem dX5_tell_50 : decode cX5_tell 50 = .ok (.aload_n 0, 1) := by decide +kernel
theorem dX5_tell_51 : decode cX5_tell 51 = .ok (.getfield 94, 3) := by decide +kernel
theorem dX5_tell_54 : decode cX5_tell 54 = .ok (.ireturn, 1) := by decide +kernel
theorem dX5_tell_55 : decode cX5_tell 55 = .ok (.aload_n 0, 1) := by decide +kernel
theorem dX5_tell_56 : decode cX5_tell 56 = .ok (.getfield 100, 3) := by decide +kernel
theorem dX5_tell_59 : decode cX5_tell 59 = .ok (.ireturn, 1) := by decide +kernel
theorem dX5_tell_60 : decode cX5_tell 60 = .ok (.aload_n 0, 1) := by decide +kernel
theorem dX5_tell_61 : decode cX5_tell 61 = .ok (.getfield 126, 3) := by decide +kernel
theorem dX5_tell_64 : decode cX5_tell 64 = .ok (.ireturn, 1) := by decide +kernel
theorem dX5_tell_65 : decode cX5_tell 65 = .ok (.aload_n 0, 1) := by decide +kernel
theorem dX5_tell_66 : decode cX5_tell 66 = .ok (.getfield 120, 3) := by decide +kernel
theorem dX5_tell_69 : decode cX5_tell 69 = .ok (.ireturn, 1) := by decide +kernel
theorem dX5_tell_70 : decode cX5_tell 70 = .ok (.iload_n 1, 1) := by decide +kernel
theorem dX5_tell_71 : decode cX5_tell 71 = .ok (.bipush 10, 2) := by decide +kernel
theorem dX5_tell_73 : decode cX5_tell 73 = .ok (.if_icmp .lt 24, 3) := by decide +kernel
theorem dX5_tell_76 : decode cX5_tell 76 = .ok (.iload_n 1, 1) := by decide +kernel
theorem dX5_tell_77 : decode cX5_tell 77 = .ok (.bipush 10, 2) := by decide +kernel
theorem dX5_tell_79 : decode cX5_tell 79 = .ok (.aload_n 0, 1) := by decide +kernel
theorem dX5_tell_80 : decode cX5_tell 80 = .ok (.getfield 97, 3) := by decide +kernel
theorem dX5_tell_83 : decode cX5_tell 83 = .ok (.iadd, 1) := by decide +kernel
theorem dX5_tell_84 : decode cX5_tell 84 = .ok (.if_icmp .ge 13, 3) := by decide +kernel
theorem dX5_tell_87 : decode cX5_tell 87 = .ok (.aload_n 0, 1) := by decide +kernel
theorem dX5_tell_88 : decode cX5_tell 88 = .ok (.getfield 35, 3) := by decide +kernel
theorem dX5_tell_91 : decode cX5_tell 91 = .ok (.iload_n 1, 1) := by decide +kernel
theorem dX5_tell_92 : decode cX5_tell 92 = .ok (.bipush 10, 2) := by decide +kernel
theorem dX5_tell_94 : decode cX5_tell 94 = .ok (.isub, 1) := by decide +kernel
theorem dX5_tell_95 : decode cX5_tell 95 = .ok (.iaload, 1) := by decide +kernel
theorem dX5_tell_96 : decode cX5_tell 96 = .ok (.ireturn, 1) := by decide +kernel
theorem dX5_tell_97 : decode cX5_tell 97 = .ok (.iload_n 1, 1) := by decide +kernel
theorem dX5_tell_98 : decode cX5_tell 98 = .ok (.bipush 20, 2) := by decide +kernel
theorem dX5_tell_100 : decode cX5_tell 100 = .ok (.if_icmp .lt 23, 3) := by decide +kernel
theorem dX5_tell_103 : decode cX5_tell 103 = .ok (.iload_n 1, 1) := by decide +kernel
theorem dX5_tell_104 : decode cX5_tell 104 = .ok (.bipush 20, 2) := by decide +kernel
theorem dX5_tell_106 : decode cX5_tell 106 = .ok (.aload_n 0, 1) := by decide +kernel
theorem dX5_tell_107 : decode cX5_tell 107 = .ok (.getfield 97, 3) := by decide +kernel
theorem dX5_tell_110 : decode cX5_tell 110 = .ok (.iadd, 1) := by decide +kernel
theorem dX5_tell_111 : decode cX5_tell 111 = .ok (.if_icmp .ge 12, 3) := by decide +kernel
theorem dX5_tell_114 : decode cX5_tell 114 = .ok (.aload_n 0, 1) := by decide +kernel
theorem dX5_tell_115 : decode cX5_tell 115 = .ok (.iload_n 1, 1) := by decide +kernel
theorem dX5_tell_116 : decode cX5_tell 116 = .ok (.bipush 20, 2) := by decide +kernel
theorem dX5_tell_118 : decode cX5_tell 118 = .ok (.isub, 1) := by decide +kernel
theorem dX5_tell_119 : decode cX5_tell 119 = .ok (.invokevirtual 146, 3) := by decide +kernel
theorem dX5_tell_122 : decode cX5_tell 122 = .ok (.ireturn, 1) := by decide +kernel
theorem dX5_tell_123 : decode cX5_tell 123 = .ok (.iload_n 1, 1) := by decide +kernel
theorem dX5_tell_124 : decode cX5_tell 124 = .ok (.bipush 30, 2) := by decide +kernel
theorem dX5_tell_126 : decode cX5_tell 126 = .ok (.if_icmp .lt 34, 3) := by decide +kernel
theorem dX5_tell_129 : decode cX5_tell 129 = .ok (.iload_n 1, 1) := by decide +kernel
theorem dX5_tell_130 : decode cX5_tell 130 = .ok (.bipush 30, 2) := by decide +kernel
theorem dX5_tell_132 : decode cX5_tell 132 = .ok (.aload_n 0, 1) := by decide +kernel
theorem dX5_tell_133 : decode cX5_tell 133 = .ok (.getfield 97, 3) := by decide +kernel
theorem dX5_tell_136 : decode cX5_tell 136 = .ok (.iadd, 1) := by decide +kernel
theorem dX5_tell_137 : decode cX5_tell 137 = .ok (.if_icmp .ge 23, 3) := by decide +kernel
theorem dX5_tell_140 : decode cX5_tell 140 = .ok (.aload_n 0, 1) := by decide +kernel
theorem dX5_tell_141 : decode cX5_tell 141 = .ok (.getfield 38, 3) := by decide +kernel
theorem dX5_tell_144 : decode cX5_tell 144 = .ok (.iload_n 1, 1) := by decide +kernel
theorem dX5_tell_145 : decode cX5_tell 145 = .ok (.bipush 30, 2) := by decide +kernel
theorem dX5_tell_147 : decode cX5_tell 147 = .ok (.isub, 1) := by decide +kernel
theorem dX5_tell_148 : decode cX5_tell 148 = .ok (.baload, 1) := by decide +kernel
theorem dX5_tell_149 : decode cX5_tell 149 = .ok (.ifCond .eq 7, 3) := by decide +kernel
theorem dX5_tell_152 : decode cX5_tell 152 = .ok (.iconst 1, 1) := by decide +kernel
theorem dX5_tell_153 : decode cX5_tell 153 = .ok (.goto 8, 3) := by decide +kernel
theorem dX5_tell_156 : decode cX5_tell 156 = .ok (.iconst 0, 1) := by decide +kernel
theorem dX5_tell_157 : decode cX5_tell 157 = .ok (.goto 4, 3) := by decide +kernel
theorem dX5_tell_160 : decode cX5_tell 160 = .ok (.iconst (-1), 1) := by decide +kernel
theorem dX5_tell_161 : decode cX5_tell 161 = .ok (.ireturn, 1) := by decide +kernel
end
section
set_option maxRecDepth 20000 in
theorem ggL_law_X4_init : GoodIn wsL_law wsX4_init := goodIn_r _ [8, 9, 10, 11, 12, 13, 14, 15, 16, 17, 18, 19, 20, 21, 22, 23, 24, 25, 26, 27, 28, 29, 30, 31, 32, 33, 34, 35, 36, 37, 38, 39, 40, 41, 42, 43, 44, 45, 46, 47, 48, 49, 50, 51, 52, 53, 54, 55, 56, 57, 58, 59, 60, 61, 62, 63, 64, 650, 618, 619, 620, 621, 622, 623, 651, 652, 653, 654, 655, 656, 657] (by decide +kernel) (by decide +kernel)
set_option maxRecDepth 20000 in
theorem gL_law_X4_init : GoodIn wsL_law (wsX4_init) := ggL_law_X4_init
set_option maxRecDepth 20000 in
theorem ggL_law_X5_init : GoodIn wsL_law wsX5_init := goodIn_r _ [67, 68, 10, 11, 46, 69, 70, 71, 72, 73, 74, 75, 76, 77, 78, 79, 80, 81, 82, 83, 84, 85, 86, 87, 88, 89, 624, 625, 626, 627, 628, 629, 630, 631, 632, 633, 634, 635, 636, 637, 638, 639, 640, 641, 642, 643, 644, 645, 646, 647, 648, 649] (by decide +kernel) (by decide +kernel)
set_option maxRecDepth 20000 in
theorem gL_law_X5_init : GoodIn wsL_law (wsX5_init) := ggL_law_X5_init
set_option maxRecDepth 20000 in
theorem ggL_law_X4_person : GoodIn wsL_law wsX4_person := goodIn_r _ [93, 15, 94, 95, 96, 14, 97, 35, 98, 99, 100, 101, 102, 103, 26, 104, 48, 105, 106, 107, 108, 44, 109, 110, 111, 112, 47, 45, 113, 114, 115, 116, 618, 619, 620, 621, 622, 623, 650, 654, 655, 656, 657] (by decide +kernel) (by decide +kernel)
set_option maxRecDepth 20000 in
theorem gL_law_X4_person : GoodIn wsL_law (wsV RL 13 RX4 yX4_person wsX4_person) := goodIn_app (goodIn_of _ (by decide +kernel)) ggL_law_X4_person
set_option maxRecDepth 20000 in
theorem ggL_law_X5_person : GoodIn wsL_law wsX5_person := goodIn_r _ [120, 121, 69, 70, 122, 123, 5, 124, 624, 625, 626, 627, 628, 629, 630, 631, 632, 633, 634, 635, 636, 637, 638, 639, 640, 641, 642, 643, 644, 645, 646, 647, 648, 649] (by decide +kernel) (by decide +kernel)
set_option maxRecDepth 20000 in
theorem gL_law_X5_person : GoodIn wsL_law (wsV RL 17 RX5 yX5_person wsX5_person) := goodIn_app (goodIn_of _ (by decide +kernel)) ggL_law_X5_person
set_option maxRecDepth 20000 in
theorem ggL_law_X4_mark : GoodIn wsL_law wsX4_mark := goodIn_r _ [128, 15, 129, 130, 131, 14, 132, 35, 133, 134, 135, 136, 137, 138, 139, 26, 140, 48, 141, 142, 143, 98, 99, 100, 109, 110, 111, 112, 47, 45, 113, 114, 115, 116, 618, 619, 620, 621, 622, 623, 650, 654, 655, 656, 657] (by decide +kernel) (by decide +kernel)
set_option maxRecDepth 20000 in
theorem gL_law_X4_mark : GoodIn wsL_law (wsV RL 18 RX4 yX4_mark wsX4_mark) := goodIn_app (goodIn_of _ (by decide +kernel)) ggL_law_X4_mark
set_option maxRecDepth 20000 in
theorem ggL_law_X5_mark : GoodIn wsL_law wsX5_mark := goodIn_r _ [147, 69, 148, 149, 150, 5, 151, 121, 152, 153, 154, 122, 123, 124, 624, 625, 626, 627, 628, 629, 630, 631, 632, 633, 634, 635, 636, 637, 638, 639, 640, 641, 642, 643, 644, 645, 646, 647, 648, 649] (by decide +kernel) (by decide +kernel)
set_option maxRecDepth 20000 in
theorem gL_law_X5_mark : GoodIn wsL_law (wsV RL 22 RX5 yX5_mark wsX5_mark) := goodIn_app (goodIn_of _ (by decide +kernel)) ggL_law_X5_mark
set_option maxRecDepth 20000 in
theorem ggL_law_X4_house : GoodIn wsL_law wsX4_house := goodIn_r _ [158, 19, 159, 160, 161, 18, 162, 54, 163, 102, 103, 26, 104, 48, 105, 106, 107, 108, 44, 164, 110, 111, 112, 47, 45, 113, 114, 115, 116, 618, 619, 620, 621, 622, 623, 651, 654, 655, 656, 657] (by decide +kernel) (by decide +kernel)
set_option maxRecDepth 20000 in
theorem gL_law_X4_house : GoodIn wsL_law (wsV RL 23 RX4 yX4_house wsX4_house) := goodIn_app (goodIn_of _ (by decide +kernel)) ggL_law_X4_house
set_option maxRecDepth 20000 in
theorem ggL_law_X5_house : GoodIn wsL_law wsX5_house := goodIn_r _ [168, 169, 73, 74, 75, 76, 77, 152, 153, 5, 154, 624, 625, 626, 627, 628, 629, 630, 631, 632, 633, 634, 635, 636, 637, 638, 639, 640, 641, 642, 643, 644, 645, 646, 647, 648, 649] (by decide +kernel) (by decide +kernel)
set_option maxRecDepth 20000 in
theorem gL_law_X5_house : GoodIn wsL_law (wsV RL 27 RX5 yX5_house wsX5_house) := goodIn_app (goodIn_of _ (by decide +kernel)) ggL_law_X5_house
set_option maxRecDepth 20000 in
theorem ggL_law_X4_day : GoodIn wsL_law wsX4_day := goodIn_r _ [173, 29, 174, 175, 2, 176, 618, 619, 620, 621, 622, 623] (by decide +kernel) (by decide +kernel)
set_option maxRecDepth 20000 in
theorem gL_law_X4_day : GoodIn wsL_law (wsV RL 28 RX4 yX4_day wsX4_day) := goodIn_app (goodIn_of _ (by decide +kernel)) ggL_law_X4_day
set_option maxRecDepth 20000 in
theorem ggL_law_X5_day : GoodIn wsL_law wsX5_day := goodIn_r _ [180, 181, 624, 625, 626, 627, 628, 629, 630, 631, 632, 633, 634, 635, 636, 637, 638, 639, 640, 641, 642, 643, 644, 645, 646, 647, 648, 649] (by decide +kernel) (by decide +kernel)
set_option maxRecDepth 20000 in
theorem gL_law_X5_day : GoodIn wsL_law (wsV RL 32 RX5 yX5_day wsX5_day) := goodIn_app (goodIn_of _ (by decide +kernel)) ggL_law_X5_day
set_option maxRecDepth 20000 in
theorem ggL_law_X4_one : GoodIn wsL_law wsX4_one := goodIn_r _ [185, 15, 186, 187, 188, 14, 189, 35, 190, 191, 192, 193, 133, 134, 135, 136, 137, 138, 139, 26, 140, 48, 194, 195, 196, 197, 198, 199, 200, 201, 47, 45, 113, 114, 115, 116, 109, 110, 111, 112, 202, 203, 204, 205, 206, 207, 208, 209, 210, 211, 212, 213, 618, 619, 620, 621, 622, 623, 650, 654, 655, 656, 657] (by decide +kernel) (by decide +kernel)
set_option maxRecDepth 20000 in
theorem gL_law_X4_one : GoodIn wsL_law (wsV RL 33 RX4 yX4_one wsX4_one) := goodIn_app (goodIn_of _ (by decide +kernel)) ggL_law_X4_one
set_option maxRecDepth 20000 in
theorem ggL_law_X5_one : GoodIn wsL_law wsX5_one := goodIn_r _ [217, 70, 72, 148, 149, 150, 5, 151, 121, 218, 219, 220, 221, 222, 223, 224, 225, 624, 625, 626, 627, 628, 629, 630, 631, 632, 633, 634, 635, 636, 637, 638, 639, 640, 641, 642, 643, 644, 645, 646, 647, 648, 649] (by decide +kernel) (by decide +kernel)
set_option maxRecDepth 20000 in
theorem gL_law_X5_one : GoodIn wsL_law (wsV RL 37 RX5 yX5_one wsX5_one) := goodIn_app (goodIn_of _ (by decide +kernel)) ggL_law_X5_one
set_option maxRecDepth 20000 in
theorem ggL_law_X4_part : GoodIn wsL_law wsX4_part := goodIn_r _ [229, 15, 230, 231, 232, 14, 233, 35, 194, 195, 196, 197, 198, 199, 200, 26, 201, 47, 45, 113, 114, 115, 116, 48, 109, 110, 111, 112, 618, 619, 620, 621, 622, 623, 650, 654, 655, 656, 657] (by decide +kernel) (by decide +kernel)
set_option maxRecDepth 20000 in
theorem gL_law_X4_part : GoodIn wsL_law (wsV RL 38 RX4 yX4_part wsX4_part) := goodIn_app (goodIn_of _ (by decide +kernel)) ggL_law_X4_part
set_option maxRecDepth 20000 in
theorem ggL_law_X5_part : GoodIn wsL_law wsX5_part := goodIn_r _ [237, 70, 148, 149, 150, 5, 151, 121, 624, 625, 626, 627, 628, 629, 630, 631, 632, 633, 634, 635, 636, 637, 638, 639, 640, 641, 642, 643, 644, 645, 646, 647, 648, 649] (by decide +kernel) (by decide +kernel)
set_option maxRecDepth 20000 in
theorem gL_law_X5_part : GoodIn wsL_law (wsV RL 41 RX5 yX5_part wsX5_part) := goodIn_app (goodIn_of _ (by decide +kernel)) ggL_law_X5_part
set_option maxRecDepth 20000 in
theorem ggL_law_X4_strike : GoodIn wsL_law wsX4_strike := goodIn_r _ [241, 15, 242, 243, 244, 14, 245, 133, 134, 135, 136, 35, 137, 138, 139, 26, 140, 48, 202, 203, 204, 205, 198, 199, 200, 201, 47, 45, 113, 114, 115, 116, 210, 211, 212, 213, 206, 207, 208, 209, 109, 110, 111, 112, 618, 619, 620, 621, 622, 623, 650, 654, 655, 656, 657] (by decide +kernel) (by decide +kernel)
set_option maxRecDepth 20000 in
theorem gL_law_X4_strike : GoodIn wsL_law (wsV RL 42 RX4 yX4_strike wsX4_strike) := goodIn_app (goodIn_of _ (by decide +kernel)) ggL_law_X4_strike
set_option maxRecDepth 20000 in
theorem ggL_law_X5_strike : GoodIn wsL_law wsX5_strike := goodIn_r _ [249, 72, 148, 149, 150, 5, 151, 121, 222, 223, 224, 225, 70, 218, 219, 220, 221, 624, 625, 626, 627, 628, 629, 630, 631, 632, 633, 634, 635, 636, 637, 638, 639, 640, 641, 642, 643, 644, 645, 646, 647, 648, 649] (by decide +kernel) (by decide +kernel)
set_option maxRecDepth 20000 in
theorem gL_law_X5_strike : GoodIn wsL_law (wsV RL 45 RX5 yX5_strike wsX5_strike) := goodIn_app (goodIn_of _ (by decide +kernel)) ggL_law_X5_strike
set_option maxRecDepth 20000 in
theorem ggL_law_X4_name : GoodIn wsL_law wsX4_name := goodIn_r _ [253, 19, 15, 254, 255, 256, 18, 257, 54, 258, 138, 139, 26, 140, 48, 259, 134, 135, 14, 136, 35, 137, 260, 203, 204, 205, 198, 199, 200, 201, 47, 45, 113, 114, 115, 116, 261, 262, 263, 2, 264, 23, 29, 265, 266, 267, 22, 268, 269, 270, 271, 272, 61, 273, 274, 275, 276, 277, 278, 279, 280, 281, 282, 283, 284, 285, 286, 287, 211, 212, 213, 288, 289, 290, 291, 62, 292, 293, 294, 295, 296, 297, 298, 299, 300, 301, 302, 303, 304, 305, 306, 307, 308, 309, 310, 311, 312, 313, 102, 103, 104, 105, 106, 107, 108, 44, 314, 110, 111, 112, 315, 316, 317, 318, 618, 619, 620, 621, 622, 623, 651, 654, 655, 656, 657, 650, 652, 653] (by decide +kernel) (by decide +kernel)
set_option maxRecDepth 20000 in
theorem gL_law_X4_name : GoodIn wsL_law (wsV RL 46 RX4 yX4_name wsX4_name) := goodIn_app (goodIn_of _ (by decide +kernel)) ggL_law_X4_name
set_option maxRecDepth 20000 in
theorem ggL_law_X5_name : GoodIn wsL_law wsX5_name := goodIn_r _ [322, 72, 81, 323, 324, 325, 5, 326, 169, 148, 149, 150, 151, 121, 327, 328, 329, 330, 73, 331, 78, 80, 75, 82, 83, 181, 84, 222, 223, 224, 225, 70, 332, 333, 334, 335, 74, 336, 337, 338, 339, 624, 625, 626, 627, 628, 629, 630, 631, 632, 633, 634, 635, 636, 637, 638, 639, 640, 641, 642, 643, 644, 645, 646, 647, 648, 649] (by decide +kernel) (by decide +kernel)
set_option maxRecDepth 20000 in
theorem gL_law_X5_name : GoodIn wsL_law (wsV RL 50 RX5 yX5_name wsX5_name) := goodIn_app (goodIn_of _ (by decide +kernel)) ggL_law_X5_name
set_option maxRecDepth 20000 in
theorem ggL_law_X4_leads : GoodIn wsL_law wsX4_leads := goodIn_r _ [343, 23, 344, 345, 346, 22, 347, 61, 273, 274, 275, 26, 276, 48, 277, 199, 200, 201, 47, 45, 113, 114, 115, 116, 348, 316, 317, 318, 349, 350, 351, 352, 62, 292, 293, 294, 295, 296, 297, 298, 299, 300, 211, 212, 14, 213, 35, 198, 353, 289, 290, 291, 315, 618, 619, 620, 621, 622, 623, 652, 653, 654, 655, 656, 657, 650] (by decide +kernel) (by decide +kernel)
set_option maxRecDepth 20000 in
theorem gL_law_X4_leads : GoodIn wsL_law (wsV RL 51 RX4 yX4_leads wsX4_leads) := goodIn_app (goodIn_of _ (by decide +kernel)) ggL_law_X4_leads
set_option maxRecDepth 20000 in
theorem ggL_law_X5_leads : GoodIn wsL_law wsX5_leads := goodIn_r _ [357, 73, 81, 84, 82, 323, 324, 325, 5, 326, 169, 358, 359, 360, 361, 331, 80, 222, 223, 224, 225, 70, 336, 337, 338, 339, 624, 625, 626, 627, 628, 629, 630, 631, 632, 633, 634, 635, 636, 637, 638, 639, 640, 641, 642, 643, 644, 645, 646, 647, 648, 649] (by decide +kernel) (by decide +kernel)
set_option maxRecDepth 20000 in
theorem gL_law_X5_leads : GoodIn wsL_law (wsV RL 54 RX5 yX5_leads wsX5_leads) := goodIn_app (goodIn_of _ (by decide +kernel)) ggL_law_X5_leads
set_option maxRecDepth 20000 in
theorem ggL_law_X4_bridge : GoodIn wsL_law wsX4_bridge := goodIn_r _ [365, 27, 366, 367, 368, 2, 369, 19, 254, 255, 256, 18, 257, 54, 258, 138, 139, 26, 140, 48, 174, 175, 176, 370, 102, 103, 104, 105, 106, 107, 108, 44, 371, 110, 111, 112, 47, 45, 113, 114, 115, 116, 618, 619, 620, 621, 622, 623, 651, 654, 655, 656, 657] (by decide +kernel) (by decide +kernel)
set_option maxRecDepth 20000 in
theorem gL_law_X4_bridge : GoodIn wsL_law (wsV RL 55 RX4 yX4_bridge wsX4_bridge) := goodIn_app (goodIn_of _ (by decide +kernel)) ggL_law_X4_bridge
set_option maxRecDepth 20000 in
theorem ggL_law_X5_bridge : GoodIn wsL_law wsX5_bridge := goodIn_r _ [375, 376, 85, 86, 87, 88, 323, 324, 325, 5, 326, 169, 624, 625, 626, 627, 628, 629, 630, 631, 632, 633, 634, 635, 636, 637, 638, 639, 640, 641, 642, 643, 644, 645, 646, 647, 648, 649] (by decide +kernel) (by decide +kernel)
set_option maxRecDepth 20000 in
theorem gL_law_X5_bridge : GoodIn wsL_law (wsV RL 59 RX5 yX5_bridge wsX5_bridge) := goodIn_app (goodIn_of _ (by decide +kernel)) ggL_law_X5_bridge
set_option maxRecDepth 20000 in
theorem ggL_law_X4_holds : GoodIn wsL_law wsX4_holds := goodIn_r _ [380, 366, 367, 368, 2, 369, 19, 254, 255, 256, 18, 257, 54, 258, 138, 139, 26, 140, 48, 174, 175, 176, 381, 382, 383, 384, 27, 385, 274, 275, 276, 386, 199, 200, 201, 47, 45, 113, 114, 115, 116, 387, 388, 389, 618, 619, 620, 621, 622, 623, 651, 654, 655, 656, 657] (by decide +kernel) (by decide +kernel)
set_option maxRecDepth 20000 in
theorem gL_law_X4_holds : GoodIn wsL_law (wsV RL 60 RX4 yX4_holds wsX4_holds) := goodIn_app (goodIn_of _ (by decide +kernel)) ggL_law_X4_holds
set_option maxRecDepth 20000 in
theorem ggL_law_X5_holds : GoodIn wsL_law wsX5_holds := goodIn_r _ [393, 323, 324, 325, 5, 326, 169, 152, 153, 154, 394, 395, 396, 397, 376, 85, 86, 87, 88, 624, 625, 626, 627, 628, 629, 630, 631, 632, 633, 634, 635, 636, 637, 638, 639, 640, 641, 642, 643, 644, 645, 646, 647, 648, 649] (by decide +kernel) (by decide +kernel)
set_option maxRecDepth 20000 in
theorem gL_law_X5_holds : GoodIn wsL_law (wsV RL 64 RX5 yX5_holds wsX5_holds) := goodIn_app (goodIn_of _ (by decide +kernel)) ggL_law_X5_holds
set_option maxRecDepth 20000 in
theorem ggL_law_X4_cross : GoodIn wsL_law wsX4_cross := goodIn_r _ [401, 19, 28, 254, 255, 256, 18, 257, 54, 258, 138, 139, 26, 140, 48, 402, 403, 2, 404, 405, 106, 107, 108, 44, 406, 407, 408, 409, 23, 29, 15, 344, 345, 346, 22, 347, 61, 273, 274, 275, 276, 277, 199, 200, 201, 47, 45, 113, 114, 115, 116, 348, 316, 317, 318, 410, 411, 412, 413, 282, 381, 382, 383, 384, 27, 385, 386, 414, 297, 298, 299, 415, 284, 285, 286, 416, 293, 294, 295, 278, 279, 280, 281, 283, 260, 203, 204, 14, 205, 35, 198, 261, 262, 263, 264, 265, 266, 267, 268, 269, 270, 271, 272, 287, 211, 212, 213, 288, 289, 290, 291, 62, 292, 296, 300, 301, 302, 303, 304, 305, 306, 307, 308, 309, 310, 311, 312, 313, 102, 103, 104, 105, 314, 110, 111, 112, 315, 417, 418, 419, 420, 370, 371, 618, 619, 620, 621, 622, 623, 651, 654, 655, 656, 657, 652, 653, 650] (by decide +kernel) (by decide +kernel)
set_option maxRecDepth 20000 in
theorem gL_law_X4_cross : GoodIn wsL_law (wsV RL 65 RX4 yX4_cross wsX4_cross) := goodIn_app (goodIn_of _ (by decide +kernel)) ggL_law_X4_cross
set_option maxRecDepth 20000 in
theorem ggL_law_X5_cross : GoodIn wsL_law wsX5_cross := goodIn_r _ [424, 425, 81, 323, 324, 325, 5, 326, 169, 152, 153, 154, 426, 427, 428, 429, 181, 79, 72, 82, 73, 84, 358, 359, 360, 361, 331, 80, 394, 395, 396, 397, 376, 85, 86, 87, 88, 332, 333, 334, 335, 74, 327, 328, 329, 330, 78, 75, 83, 222, 223, 224, 225, 70, 336, 337, 338, 339, 430, 431, 432, 433, 89, 624, 625, 626, 627, 628, 629, 630, 631, 632, 633, 634, 635, 636, 637, 638, 639, 640, 641, 642, 643, 644, 645, 646, 647, 648, 649] (by decide +kernel) (by decide +kernel)
set_option maxRecDepth 20000 in
theorem gL_law_X5_cross : GoodIn wsL_law (wsV RL 68 RX5 yX5_cross wsX5_cross) := goodIn_app (goodIn_of _ (by decide +kernel)) ggL_law_X5_cross
set_option maxRecDepth 20000 in
theorem ggL_law_X4_back : GoodIn wsL_law wsX4_back := goodIn_r _ [437, 19, 28, 254, 255, 256, 18, 257, 54, 258, 138, 139, 26, 140, 48, 438, 439, 2, 440, 402, 403, 404, 405, 106, 107, 108, 44, 441, 442, 443, 444, 282, 199, 200, 201, 47, 45, 113, 114, 115, 116, 410, 411, 412, 413, 445, 446, 447, 448, 23, 15, 344, 345, 346, 22, 347, 61, 273, 274, 275, 276, 277, 348, 316, 317, 318, 414, 297, 298, 299, 260, 203, 204, 14, 205, 35, 198, 287, 211, 212, 213, 417, 418, 419, 420, 29, 370, 102, 103, 104, 105, 371, 110, 111, 112, 618, 619, 620, 621, 622, 623, 651, 654, 655, 656, 657, 652, 653, 650] (by decide +kernel) (by decide +kernel)
set_option maxRecDepth 20000 in
theorem gL_law_X4_back : GoodIn wsL_law (wsV RL 69 RX4 yX4_back wsX4_back) := goodIn_app (goodIn_of _ (by decide +kernel)) ggL_law_X4_back
set_option maxRecDepth 20000 in
theorem ggL_law_X5_back : GoodIn wsL_law wsX5_back := goodIn_r _ [452, 425, 76, 79, 72, 82, 323, 324, 325, 5, 326, 169, 152, 153, 154, 358, 359, 360, 361, 331, 80, 81, 430, 431, 432, 433, 89, 181, 222, 223, 224, 225, 70, 624, 625, 626, 627, 628, 629, 630, 631, 632, 633, 634, 635, 636, 637, 638, 639, 640, 641, 642, 643, 644, 645, 646, 647, 648, 649] (by decide +kernel) (by decide +kernel)
set_option maxRecDepth 20000 in
theorem gL_law_X5_back : GoodIn wsL_law (wsV RL 72 RX5 yX5_back wsX5_back) := goodIn_app (goodIn_of _ (by decide +kernel)) ggL_law_X5_back
set_option maxRecDepth 20000 in
theorem ggL_law_X4_lose : GoodIn wsL_law wsX4_lose := goodIn_r _ [456, 19, 254, 255, 256, 18, 257, 54, 258, 138, 139, 26, 140, 48, 410, 411, 412, 413, 282, 199, 200, 201, 47, 45, 113, 114, 115, 116, 457, 458, 459, 460, 164, 110, 111, 112, 618, 619, 620, 621, 622, 623, 651, 654, 655, 656, 657] (by decide +kernel) (by decide +kernel)
set_option maxRecDepth 20000 in
theorem gL_law_X4_lose : GoodIn wsL_law (wsV RL 73 RX4 yX4_lose wsX4_lose) := goodIn_app (goodIn_of _ (by decide +kernel)) ggL_law_X4_lose
set_option maxRecDepth 20000 in
theorem ggL_law_X5_lose : GoodIn wsL_law wsX5_lose := goodIn_r _ [464, 79, 323, 324, 325, 5, 326, 169, 624, 625, 626, 627, 628, 629, 630, 631, 632, 633, 634, 635, 636, 637, 638, 639, 640, 641, 642, 643, 644, 645, 646, 647, 648, 649] (by decide +kernel) (by decide +kernel)
set_option maxRecDepth 20000 in
theorem gL_law_X5_lose : GoodIn wsL_law (wsV RL 76 RX5 yX5_lose wsX5_lose) := goodIn_app (goodIn_of _ (by decide +kernel)) ggL_law_X5_lose
set_option maxRecDepth 20000 in
theorem ggL_law_X4_anew : GoodIn wsL_law wsX4_anew := goodIn_r _ [468, 19, 254, 255, 256, 18, 257, 54, 258, 138, 139, 26, 140, 48, 410, 411, 412, 413, 282, 199, 200, 201, 47, 45, 113, 114, 115, 116, 469, 306, 307, 308, 457, 458, 459, 460, 164, 110, 111, 112, 618, 619, 620, 621, 622, 623, 651, 654, 655, 656, 657] (by decide +kernel) (by decide +kernel)
set_option maxRecDepth 20000 in
theorem gL_law_X4_anew : GoodIn wsL_law (wsV RL 77 RX4 yX4_anew wsX4_anew) := goodIn_app (goodIn_of _ (by decide +kernel)) ggL_law_X4_anew
set_option maxRecDepth 20000 in
theorem ggL_law_X5_anew : GoodIn wsL_law wsX5_anew := goodIn_r _ [473, 79, 75, 323, 324, 325, 5, 326, 169, 624, 625, 626, 627, 628, 629, 630, 631, 632, 633, 634, 635, 636, 637, 638, 639, 640, 641, 642, 643, 644, 645, 646, 647, 648, 649] (by decide +kernel) (by decide +kernel)
set_option maxRecDepth 20000 in
theorem gL_law_X5_anew : GoodIn wsL_law (wsV RL 80 RX5 yX5_anew wsX5_anew) := goodIn_app (goodIn_of _ (by decide +kernel)) ggL_law_X5_anew
set_option maxRecDepth 20000 in
theorem ggL_law_X4_joins : GoodIn wsL_law wsX4_joins := goodIn_r _ [477, 23, 15, 366, 367, 368, 2, 369, 19, 254, 255, 256, 18, 257, 54, 258, 138, 139, 26, 140, 48, 478, 479, 480, 481, 482, 483, 22, 484, 61, 62, 273, 274, 275, 276, 296, 297, 298, 299, 277, 199, 200, 201, 47, 45, 113, 114, 115, 116, 300, 211, 212, 14, 213, 35, 198, 485, 203, 204, 205, 486, 487, 488, 489, 490, 491, 492, 493, 494, 495, 496, 497, 498, 499, 500, 141, 142, 143, 618, 619, 620, 621, 622, 623, 651, 654, 655, 656, 657, 652, 653, 650] (by decide +kernel) (by decide +kernel)
set_option maxRecDepth 20000 in
theorem gL_law_X4_joins : GoodIn wsL_law (wsV RL 81 RX4 yX4_joins wsX4_joins) := goodIn_app (goodIn_of _ (by decide +kernel)) ggL_law_X4_joins
set_option maxRecDepth 20000 in
theorem ggL_law_X5_joins : GoodIn wsL_law wsX5_joins := goodIn_r _ [504, 121, 323, 324, 325, 5, 326, 169, 152, 153, 154, 505, 506, 507, 508, 72, 331, 80, 82, 222, 223, 224, 225, 70, 509, 510, 511, 512, 513, 514, 515, 516, 69, 624, 625, 626, 627, 628, 629, 630, 631, 632, 633, 634, 635, 636, 637, 638, 639, 640, 641, 642, 643, 644, 645, 646, 647, 648, 649] (by decide +kernel) (by decide +kernel)
set_option maxRecDepth 20000 in
theorem gL_law_X5_joins : GoodIn wsL_law (wsV RL 84 RX5 yX5_joins wsX5_joins) := goodIn_app (goodIn_of _ (by decide +kernel)) ggL_law_X5_joins
set_option maxRecDepth 20000 in
theorem ggL_law_X4_least : GoodIn wsL_law wsX4_least := goodIn_r _ [520, 19, 23, 15, 254, 255, 256, 18, 257, 54, 258, 138, 139, 26, 140, 48, 478, 479, 2, 480, 481, 482, 483, 22, 484, 61, 62, 273, 274, 275, 276, 296, 297, 298, 299, 277, 199, 200, 201, 47, 45, 113, 114, 115, 116, 300, 211, 212, 14, 213, 35, 198, 485, 203, 204, 205, 521, 522, 523, 524, 525, 526, 527, 486, 487, 488, 489, 490, 491, 492, 493, 494, 495, 496, 497, 498, 499, 500, 141, 142, 143, 618, 619, 620, 621, 622, 623, 651, 654, 655, 656, 657, 652, 653, 650] (by decide +kernel) (by decide +kernel)
set_option maxRecDepth 20000 in
theorem gL_law_X4_least : GoodIn wsL_law (wsV RL 85 RX4 yX4_least wsX4_least) := goodIn_app (goodIn_of _ (by decide +kernel)) ggL_law_X4_least
set_option maxRecDepth 20000 in
theorem ggL_law_X5_least : GoodIn wsL_law wsX5_least := goodIn_r _ [531, 121, 323, 324, 325, 5, 326, 169, 152, 153, 154, 505, 506, 507, 508, 72, 331, 80, 82, 222, 223, 224, 225, 70, 509, 510, 511, 512, 513, 514, 515, 516, 69, 624, 625, 626, 627, 628, 629, 630, 631, 632, 633, 634, 635, 636, 637, 638, 639, 640, 641, 642, 643, 644, 645, 646, 647, 648, 649] (by decide +kernel) (by decide +kernel)
set_option maxRecDepth 20000 in
theorem gL_law_X5_least : GoodIn wsL_law (wsV RL 88 RX5 yX5_least wsX5_least) := goodIn_app (goodIn_of _ (by decide +kernel)) ggL_law_X5_least
set_option maxRecDepth 20000 in
theorem ggL_law_X4_count : GoodIn wsL_law wsX4_count := goodIn_r _ [535, 19, 23, 15, 254, 255, 256, 18, 257, 54, 258, 138, 139, 26, 140, 48, 536, 142, 14, 143, 537, 99, 100, 481, 482, 483, 22, 484, 61, 62, 273, 274, 275, 276, 296, 297, 298, 299, 277, 199, 200, 201, 47, 45, 113, 114, 115, 116, 300, 211, 212, 213, 35, 198, 485, 203, 204, 205, 538, 539, 540, 541, 490, 491, 492, 497, 498, 499, 500, 141, 521, 522, 523, 524, 525, 526, 527, 542, 543, 544, 2, 545, 546, 547, 548, 549, 282, 618, 619, 620, 621, 622, 623, 651, 654, 655, 656, 657, 652, 653, 650] (by decide +kernel) (by decide +kernel)
set_option maxRecDepth 20000 in
theorem gL_law_X4_count : GoodIn wsL_law (wsV RL 89 RX4 yX4_count wsX4_count) := goodIn_app (goodIn_of _ (by decide +kernel)) ggL_law_X4_count
set_option maxRecDepth 20000 in
theorem ggL_law_X5_count : GoodIn wsL_law wsX5_count := goodIn_r _ [553, 121, 69, 77, 323, 324, 325, 5, 326, 169, 152, 153, 154, 122, 123, 124, 505, 506, 507, 508, 72, 331, 80, 82, 222, 223, 224, 225, 70, 624, 625, 626, 627, 628, 629, 630, 631, 632, 633, 634, 635, 636, 637, 638, 639, 640, 641, 642, 643, 644, 645, 646, 647, 648, 649] (by decide +kernel) (by decide +kernel)
set_option maxRecDepth 20000 in
theorem gL_law_X5_count : GoodIn wsL_law (wsV RL 92 RX5 yX5_count wsX5_count) := goodIn_app (goodIn_of _ (by decide +kernel)) ggL_law_X5_count
set_option maxRecDepth 20000 in
theorem ggL_law_X4_record : GoodIn wsL_law wsX4_record := goodIn_r _ [557, 28, 386, 199, 200, 26, 201, 47, 45, 113, 114, 115, 116, 48, 618, 619, 620, 621, 622, 623, 654, 655, 656, 657] (by decide +kernel) (by decide +kernel)
set_option maxRecDepth 20000 in
theorem gL_law_X4_record : GoodIn wsL_law (wsV RL 93 RX4 yX4_record wsX4_record) := goodIn_app (goodIn_of _ (by decide +kernel)) ggL_law_X4_record
set_option maxRecDepth 20000 in
theorem ggL_law_X5_record : GoodIn wsL_law wsX5_record := goodIn_r _ [561, 425, 89, 152, 153, 5, 154, 624, 625, 626, 627, 628, 629, 630, 631, 632, 633, 634, 635, 636, 637, 638, 639, 640, 641, 642, 643, 644, 645, 646, 647, 648, 649] (by decide +kernel) (by decide +kernel)
set_option maxRecDepth 20000 in
theorem gL_law_X5_record : GoodIn wsL_law (wsV RL 96 RX5 yX5_record wsX5_record) := goodIn_app (goodIn_of _ (by decide +kernel)) ggL_law_X5_record
set_option maxRecDepth 20000 in
theorem ggL_law_X4_given : GoodIn wsL_law wsX4_given := goodIn_r _ [565, 23, 566, 567, 568, 22, 569, 61, 277, 199, 200, 26, 201, 47, 45, 113, 114, 115, 116, 48, 618, 619, 620, 621, 622, 623, 652, 653, 654, 655, 656, 657] (by decide +kernel) (by decide +kernel)
set_option maxRecDepth 20000 in
theorem gL_law_X4_given : GoodIn wsL_law (wsV RL 97 RX4 yX4_given wsX4_given) := goodIn_app (goodIn_of _ (by decide +kernel)) ggL_law_X4_given
set_option maxRecDepth 20000 in
theorem ggL_law_X5_given : GoodIn wsL_law wsX5_given := goodIn_r _ [573, 331, 80, 81, 82, 83, 84, 624, 625, 626, 627, 628, 629, 630, 631, 632, 633, 634, 635, 636, 637, 638, 639, 640, 641, 642, 643, 644, 645, 646, 647, 648, 649] (by decide +kernel) (by decide +kernel)
set_option maxRecDepth 20000 in
theorem gL_law_X5_given : GoodIn wsL_law (wsV RL 100 RX5 yX5_given wsX5_given) := goodIn_app (goodIn_of _ (by decide +kernel)) ggL_law_X5_given
set_option maxRecDepth 20000 in
theorem ggL_law_X4_look : GoodIn wsL_law wsX4_look := goodIn_r _ [577, 15, 23, 259, 134, 135, 14, 136, 35, 137, 138, 139, 26, 140, 48, 287, 211, 212, 213, 198, 199, 200, 201, 47, 45, 113, 114, 115, 116, 578, 195, 196, 197, 260, 203, 204, 205, 387, 388, 2, 389, 579, 580, 581, 22, 582, 269, 270, 271, 272, 61, 273, 274, 275, 276, 277, 583, 498, 499, 500, 141, 142, 143, 618, 619, 620, 621, 622, 623, 650, 654, 655, 656, 657, 652, 653] (by decide +kernel) (by decide +kernel)
set_option maxRecDepth 20000 in
theorem gL_law_X4_look : GoodIn wsL_law (wsV RL 101 RX4 yX4_look wsX4_look) := goodIn_app (goodIn_of _ (by decide +kernel)) ggL_law_X4_look
set_option maxRecDepth 20000 in
theorem ggL_law_X5_look : GoodIn wsL_law wsX5_look := goodIn_r _ [587, 70, 72, 331, 82, 69, 148, 149, 150, 5, 151, 121, 222, 223, 224, 225, 624, 625, 626, 627, 628, 629, 630, 631, 632, 633, 634, 635, 636, 637, 638, 639, 640, 641, 642, 643, 644, 645, 646, 647, 648, 649] (by decide +kernel) (by decide +kernel)
set_option maxRecDepth 20000 in
theorem gL_law_X5_look : GoodIn wsL_law (wsV RL 104 RX5 yX5_look wsX5_look) := goodIn_app (goodIn_of _ (by decide +kernel)) ggL_law_X5_look
set_option maxRecDepth 20000 in
theorem ggL_law_X4_tell : GoodIn wsL_law wsX4_tell := goodIn_r _ [591, 15, 19, 29, 23, 28, 27, 592, 593, 594, 14, 595, 35, 596, 274, 275, 26, 276, 48, 597, 598, 599, 18, 600, 54, 601, 602, 603, 604, 22, 605, 61, 273, 385, 606, 607, 608, 2, 609, 254, 255, 256, 257, 258, 138, 139, 140, 265, 266, 267, 268, 269, 270, 271, 272, 277, 199, 200, 201, 47, 45, 113, 114, 115, 116, 481, 482, 483, 484, 62, 296, 297, 298, 299, 300, 211, 212, 213, 198, 485, 203, 204, 205, 521, 522, 523, 524, 525, 526, 527, 410, 411, 412, 413, 282, 387, 388, 389, 618, 619, 620, 621, 622, 623, 650, 654, 655, 656, 657, 651, 652, 653] (by decide +kernel) (by decide +kernel)
set_option maxRecDepth 20000 in
theorem gL_law_X4_tell : GoodIn wsL_law (wsV RL 105 RX4 yX4_tell wsX4_tell) := goodIn_app (goodIn_of _ (by decide +kernel)) ggL_law_X4_tell
set_option maxRecDepth 20000 in
theorem ggL_law_X5_tell : GoodIn wsL_law wsX5_tell := goodIn_r _ [613, 121, 169, 181, 331, 425, 376, 78, 79, 614, 615, 616, 5, 617, 505, 506, 507, 508, 72, 80, 82, 222, 223, 224, 225, 70, 624, 625, 626, 627, 628, 629, 630, 631, 632, 633, 634, 635, 636, 637, 638, 639, 640, 641, 642, 643, 644, 645, 646, 647, 648, 649] (by decide +kernel) (by decide +kernel)
set_option maxRecDepth 20000 in
theorem gL_law_X5_tell : GoodIn wsL_law (wsV RL 109 RX5 yX5_tell wsX5_tell) := goodIn_app (goodIn_of _ (by decide +kernel)) ggL_law_X5_tell
theorem dL_law_0 : decode cL_law 0 = .ok (.new 7, 3) := by decide +kernel
theorem dL_law_3 : decode cL_law 3 = .ok (.dup, 1) := by decide +kernel
theorem dL_law_4 : decode cL_law 4 = .ok (.invokespecial 9, 3) := by decide +kernel
theorem dL_law_7 : decode cL_law 7 = .ok (.astore_n 1, 1) := by decide +kernel
theorem dL_law_8 : decode cL_law 8 = .ok (.new 10, 3) := by decide +kernel
theorem dL_law_11 : decode cL_law 11 = .ok (.dup, 1) := by decide +kernel
theorem dL_law_12 : decode cL_law 12 = .ok (.invokespecial 12, 3) := by decide +kernel
theorem dL_law_15 : decode cL_law 15 = .ok (.astore_n 2, 1) := by decide +kernel
theorem dL_law_16 : decode cL_law 16 = .ok (.iconst 0, 1) := by decide +kernel
theorem dL_law_17 : decode cL_law 17 = .ok (.istore_n 3, 1) := by decide +kernel
theorem dL_law_18 : decode cL_law 18 = .ok (.iload_n 3, 1) := by decide +kernel
theorem dL_law_19 : decode cL_law 19 = .ok (.aload_n 0, 1) := by decide +kernel
theorem dL_law_20 : decode cL_law 20 = .ok (.arraylength, 1) := by decide +kernel
theorem dL_law_21 : decode cL_law 21 = .ok (.bipush 6, 2) := by decide +kernel
theorem dL_law_23 : decode cL_law 23 = .ok (.isub, 1) := by decide +kernel
theorem dL_law_24 : decode cL_law 24 = .ok (.if_icmp .gt 954, 3) := by decide +kernel
theorem dL_law_27 : decode cL_law 27 = .ok (.aload_n 0, 1) := by decide +kernel
theorem dL_law_28 : decode cL_law 28 = .ok (.iload_n 3, 1) := by decide +kernel
theorem dL_law_29 : decode cL_law 29 = .ok (.iaload, 1) := by decide +kernel
theorem dL_law_30 : decode cL_law 30 = .ok (.bipush 31, 2) := by decide +kernel
theorem dL_law_32 : decode cL_law 32 = .ok (.iand, 1) := by decide +kernel
theorem dL_law_33 : decode cL_law 33 = .ok (.tableswitch 939 0 21 #[103, 156, 199, 262, 285, 318, 341, 364, 397, 430, 483, 526, 579, 642, 665, 698, 741, 774, 817, 850, 883, 916], 103) := by decide +kernel
theorem dL_law_136 : decode cL_law 136 = .ok (.aload_n 1, 1) := by decide +kernel
theorem dL_law_137 : decode cL_law 137 = .ok (.aload_n 0, 1) := by decide +kernel
theorem dL_law_138 : decode cL_law 138 = .ok (.iload_n 3, 1) := by decide +kernel
theorem dL_law_139 : decode cL_law 139 = .ok (.iconst 1, 1) := by decide +kernel
theorem dL_law_140 : decode cL_law 140 = .ok (.iadd, 1) := by decide +kernel
theorem dL_law_141 : decode cL_law 141 = .ok (.iaload, 1) := by decide +kernel
theorem dL_law_142 : decode cL_law 142 = .ok (.aload_n 0, 1) := by decide +kernel
theorem dL_law_143 : decode cL_law 143 = .ok (.iload_n 3, 1) := by decide +kernel
theorem dL_law_144 : decode cL_law 144 = .ok (.iconst 2, 1) := by decide +kernel
theorem dL_law_145 : decode cL_law 145 = .ok (.iadd, 1) := by decide +kernel
theorem dL_law_146 : decode cL_law 146 = .ok (.iaload, 1) := by decide +kernel
theorem dL_law_147 : decode cL_law 147 = .ok (.aload_n 0, 1) := by decide +kernel
theorem dL_law_148 : decode cL_law 148 = .ok (.iload_n 3, 1) := by decide +kernel
theorem dL_law_149 : decode cL_law 149 = .ok (.iconst 3, 1) := by decide +kernel
theorem dL_law_150 : decode cL_law 150 = .ok (.iadd, 1) := by decide +kernel
theorem dL_law_151 : decode cL_law 151 = .ok (.iaload, 1) := by decide +kernel
theorem dL_law_152 : decode cL_law 152 = .ok (.aload_n 0, 1) := by decide +kernel
theorem dL_law_153 : decode cL_law 153 = .ok (.iload_n 3, 1) := by decide +kernel
theorem dL_law_154 : decode cL_law 154 = .ok (.iconst 4, 1) := by decide +kernel
theorem dL_law_155 : decode cL_law 155 = .ok (.iadd, 1) := by decide +kernel
theorem dL_law_156 : decode cL_law 156 = .ok (.iaload, 1) := by decide +kernel
theorem dL_law_157 : decode cL_law 157 = .ok (.invokevirtual 13, 3) := by decide +kernel
theorem dL_law_160 : decode cL_law 160 = .ok (.aload_n 2, 1) := by decide +kernel
theorem dL_law_161 : decode cL_law 161 = .ok (.aload_n 0, 1) := by decide +kernel
theorem dL_law_162 : decode cL_law 162 = .ok (.iload_n 3, 1) := by decide +kernel
theorem dL_law_163 : decode cL_law 163 = .ok (.iconst 1, 1) := by decide +kernel
theorem dL_law_164 : decode cL_law 164 = .ok (.iadd, 1) := by decide +kernel
theorem dL_law_165 : decode cL_law 165 = .ok (.iaload, 1) := by decide +kernel
theorem dL_law_166 : decode cL_law 166 = .ok (.aload_n 0, 1) := by decide +kernel
theorem dL_law_167 : decode cL_law 167 = .ok (.iload_n 3, 1) := by decide +kernel
theorem dL_law_168 : decode cL_law 168 = .ok (.iconst 2, 1) := by decide +kernel
theorem dL_law_169 : decode cL_law 169 = .ok (.iadd, 1) := by decide +kernel
theorem dL_law_170 : decode cL_law 170 = .ok (.iaload, 1) := by decide +kernel
theorem dL_law_171 : decode cL_law 171 = .ok (.aload_n 0, 1) := by decide +kernel
theorem dL_law_172 : decode cL_law 172 = .ok (.iload_n 3, 1) := by decide +kernel
theorem dL_law_173 : decode cL_law 173 = .ok (.iconst 3, 1) := by decide +kernel
theorem dL_law_174 : decode cL_law 174 = .ok (.iadd, 1) := by decide +kernel
theorem dL_law_175 : decode cL_law 175 = .ok (.iaload, 1) := by decide +kernel
theorem dL_law_176 : decode cL_law 176 = .ok (.aload_n 0, 1) := by decide +kernel
theorem dL_law_177 : decode cL_law 177 = .ok (.iload_n 3, 1) := by decide +kernel
theorem dL_law_178 : decode cL_law 178 = .ok (.iconst 4, 1) := by decide +kernel
theorem dL_law_179 : decode cL_law 179 = .ok (.iadd, 1) := by decide +kernel
theorem dL_law_180 : decode cL_law 180 = .ok (.iaload, 1) := by decide +kernel
theorem dL_law_181 : decode cL_law 181 = .ok (.invokevirtual 17, 3) := by decide +kernel
theorem dL_law_184 : decode cL_law 184 = .ok (.if_icmp .eq 788, 3) := by decide +kernel
theorem dL_law_187 : decode cL_law 187 = .ok (.iconst 0, 1) := by decide +kernel
theorem dL_law_188 : decode cL_law 188 = .ok (.ireturn, 1) := by decide +kernel
theorem dL_law_189 : decode cL_law 189 = .ok (.aload_n 1, 1) := by decide +kernel
theorem dL_law_190 : decode cL_law 190 = .ok (.aload_n 0, 1) := by decide +kernel
theorem dL_law_191 : decode cL_law 191 = .ok (.iload_n 3, 1) := by decide +kernel
theorem dL_law_192 : decode cL_law 192 = .ok (.iconst 1, 1) := by decide +kernel
theorem dL_law_193 : decode cL_law 193 = .ok (.iadd, 1) := by decide +kernel
theorem dL_law_194 : decode cL_law 194 = .ok (.iaload, 1) := by decide +kernel
theorem dL_law_195 : decode cL_law 195 = .ok (.aload_n 0, 1) := by decide +kernel
theorem dL_law_196 : decode cL_law 196 = .ok (.iload_n 3, 1) := by decide +kernel
theorem dL_law_197 : decode cL_law 197 = .ok (.iconst 2, 1) := by decide +kernel
theorem dL_law_198 : decode cL_law 198 = .ok (.iadd, 1) := by decide +kernel
theorem dL_law_199 : decode cL_law 199 = .ok (.iaload, 1) := by decide +kernel
theorem dL_law_200 : decode cL_law 200 = .ok (.aload_n 0, 1) := by decide +kernel
theorem dL_law_201 : decode cL_law 201 = .ok (.iload_n 3, 1) := by decide +kernel
theorem dL_law_202 : decode cL_law 202 = .ok (.iconst 3, 1) := by decide +kernel
theorem dL_law_203 : decode cL_law 203 = .ok (.iadd, 1) := by decide +kernel
theorem dL_law_204 : decode cL_law 204 = .ok (.iaload, 1) := by decide +kernel
theorem dL_law_205 : decode cL_law 205 = .ok (.invokevirtual 18, 3) := by decide +kernel
theorem dL_law_208 : decode cL_law 208 = .ok (.aload_n 2, 1) := by decide +kernel
theorem dL_law_209 : decode cL_law 209 = .ok (.aload_n 0, 1) := by decide +kernel
theorem dL_law_210 : decode cL_law 210 = .ok (.iload_n 3, 1) := by decide +kernel
theorem dL_law_211 : decode cL_law 211 = .ok (.iconst 1, 1) := by decide +kernel
theorem dL_law_212 : decode cL_law 212 = .ok (.iadd, 1) := by decide +kernel
theorem dL_law_213 : decode cL_law 213 = .ok (.iaload, 1) := by decide +kernel
theorem dL_law_214 : decode cL_law 214 = .ok (.aload_n 0, 1) := by decide +kernel
theorem dL_law_215 : decode cL_law 215 = .ok (.iload_n 3, 1) := by decide +kernel
theorem dL_law_216 : decode cL_law 216 = .ok (.iconst 2, 1) := by decide +kernel
theorem dL_law_217 : decode cL_law 217 = .ok (.iadd, 1) := by decide +kernel
theorem dL_law_218 : decode cL_law 218 = .ok (.iaload, 1) := by decide +kernel
theorem dL_law_219 : decode cL_law 219 = .ok (.aload_n 0, 1) := by decide +kernel
theorem dL_law_220 : decode cL_law 220 = .ok (.iload_n 3, 1) := by decide +kernel
theorem dL_law_221 : decode cL_law 221 = .ok (.iconst 3, 1) := by decide +kernel
theorem dL_law_222 : decode cL_law 222 = .ok (.iadd, 1) := by decide +kernel
theorem dL_law_223 : decode cL_law 223 = .ok (.iaload, 1) := by decide +kernel
theorem dL_law_224 : decode cL_law 224 = .ok (.invokevirtual 22, 3) := by decide +kernel
theorem dL_law_227 : decode cL_law 227 = .ok (.if_icmp .eq 745, 3) := by decide +kernel
theorem dL_law_230 : decode cL_law 230 = .ok (.iconst 0, 1) := by decide +kernel
theorem dL_law_231 : decode cL_law 231 = .ok (.ireturn, 1) := by decide +kernel
theorem dL_law_232 : decode cL_law 232 = .ok (.aload_n 1, 1) := by decide +kernel
theorem dL_law_233 : decode cL_law 233 = .ok (.aload_n 0, 1) := by decide +kernel
theorem dL_law_234 : decode cL_law 234 = .ok (.iload_n 3, 1) := by decide +kernel
theorem dL_law_235 : decode cL_law 235 = .ok (.iconst 1, 1) := by decide +kernel
theorem dL_law_236 : decode cL_law 236 = .ok (.iadd, 1) := by decide +kernel
theorem dL_law_237 : decode cL_law 237 = .ok (.iaload, 1) := by decide +kernel
theorem dL_law_238 : decode cL_law 238 = .ok (.aload_n 0, 1) := by decide +kernel
theorem dL_law_239 : decode cL_law 239 = .ok (.iload_n 3, 1) := by decide +kernel
theorem dL_law_240 : decode cL_law 240 = .ok (.iconst 2, 1) := by decide +kernel
theorem dL_law_241 : decode cL_law 241 = .ok (.iadd, 1) := by decide +kernel
theorem dL_law_242 : decode cL_law 242 = .ok (.iaload, 1) := by decide +kernel
theorem dL_law_243 : decode cL_law 243 = .ok (.aload_n 0, 1) := by decide +kernel
theorem dL_law_244 : decode cL_law 244 = .ok (.iload_n 3, 1) := by decide +kernel
theorem dL_law_245 : decode cL_law 245 = .ok (.iconst 3, 1) := by decide +kernel
theorem dL_law_246 : decode cL_law 246 = .ok (.iadd, 1) := by decide +kernel
theorem dL_law_247 : decode cL_law 247 = .ok (.iaload, 1) := by decide +kernel
theorem dL_law_248 : decode cL_law 248 = .ok (.aload_n 0, 1) := by decide +kernel
theorem dL_law_249 : decode cL_law 249 = .ok (.iload_n 3, 1) := by decide +kernel
theorem dL_law_250 : decode cL_law 250 = .ok (.iconst 4, 1) := by decide +kernel
theorem dL_law_251 : decode cL_law 251 = .ok (.iadd, 1) := by decide +kernel
theorem dL_law_252 : decode cL_law 252 = .ok (.iaload, 1) := by decide +kernel
theorem dL_law_253 : decode cL_law 253 = .ok (.aload_n 0, 1) := by decide +kernel
theorem dL_law_254 : decode cL_law 254 = .ok (.iload_n 3, 1) := by decide +kernel
theorem dL_law_255 : decode cL_law 255 = .ok (.iconst 5, 1) := by decide +kernel
theorem dL_law_256 : decode cL_law 256 = .ok (.iadd, 1) := by decide +kernel
theorem dL_law_257 : decode cL_law 257 = .ok (.iaload, 1) := by decide +kernel
theorem dL_law_258 : decode cL_law 258 = .ok (.invokevirtual 23, 3) := by decide +kernel
theorem dL_law_261 : decode cL_law 261 = .ok (.aload_n 2, 1) := by decide +kernel
theorem dL_law_262 : decode cL_law 262 = .ok (.aload_n 0, 1) := by decide +kernel
theorem dL_law_263 : decode cL_law 263 = .ok (.iload_n 3, 1) := by decide +kernel
theorem dL_law_264 : decode cL_law 264 = .ok (.iconst 1, 1) := by decide +kernel
theorem dL_law_265 : decode cL_law 265 = .ok (.iadd, 1) := by decide +kernel
theorem dL_law_266 : decode cL_law 266 = .ok (.iaload, 1) := by decide +kernel
theorem dL_law_267 : decode cL_law 267 = .ok (.aload_n 0, 1) := by decide +kernel
theorem dL_law_268 : decode cL_law 268 = .ok (.iload_n 3, 1) := by decide +kernel
theorem dL_law_269 : decode cL_law 269 = .ok (.iconst 2, 1) := by decide +kernel
theorem dL_law_270 : decode cL_law 270 = .ok (.iadd, 1) := by decide +kernel
theorem dL_law_271 : decode cL_law 271 = .ok (.iaload, 1) := by decide +kernel
theorem dL_law_272 : decode cL_law 272 = .ok (.aload_n 0, 1) := by decide +kernel
theorem dL_law_273 : decode cL_law 273 = .ok (.iload_n 3, 1) := by decide +kernel
theorem dL_law_274 : decode cL_law 274 = .ok (.iconst 3, 1) := by decide +kernel
theorem dL_law_275 : decode cL_law 275 = .ok (.iadd, 1) := by decide +kernel
theorem dL_law_276 : decode cL_law 276 = .ok (.iaload, 1) := by decide +kernel
theorem dL_law_277 : decode cL_law 277 = .ok (.aload_n 0, 1) := by decide +kernel
theorem dL_law_278 : decode cL_law 278 = .ok (.iload_n 3, 1) := by decide +kernel
theorem dL_law_279 : decode cL_law 279 = .ok (.iconst 4, 1) := by decide +kernel
theorem dL_law_280 : decode cL_law 280 = .ok (.iadd, 1) := by decide +kernel
theorem dL_law_281 : decode cL_law 281 = .ok (.iaload, 1) := by decide +kernel
theorem dL_law_282 : decode cL_law 282 = .ok (.aload_n 0, 1) := by decide +kernel
theorem dL_law_283 : decode cL_law 283 = .ok (.iload_n 3, 1) := by decide +kernel
theorem dL_law_284 : decode cL_law 284 = .ok (.iconst 5, 1) := by decide +kernel
theorem dL_law_285 : decode cL_law 285 = .ok (.iadd, 1) := by decide +kernel
theorem dL_law_286 : decode cL_law 286 = .ok (.iaload, 1) := by decide +kernel
theorem dL_law_287 : decode cL_law 287 = .ok (.invokevirtual 27, 3) := by decide +kernel
theorem dL_law_290 : decode cL_law 290 = .ok (.if_icmp .eq 682, 3) := by decide +kernel
theorem dL_law_293 : decode cL_law 293 = .ok (.iconst 0, 1) := by decide +kernel
theorem dL_law_294 : decode cL_law 294 = .ok (.ireturn, 1) := by decide +kernel
theorem dL_law_295 : decode cL_law 295 = .ok (.aload_n 1, 1) := by decide +kernel
theorem dL_law_296 : decode cL_law 296 = .ok (.aload_n 0, 1) := by decide +kernel
theorem dL_law_297 : decode cL_law 297 = .ok (.iload_n 3, 1) := by decide +kernel
theorem dL_law_298 : decode cL_law 298 = .ok (.iconst 1, 1) := by decide +kernel
theorem dL_law_299 : decode cL_law 299 = .ok (.iadd, 1) := by decide +kernel
theorem dL_law_300 : decode cL_law 300 = .ok (.iaload, 1) := by decide +kernel
theorem dL_law_301 : decode cL_law 301 = .ok (.invokevirtual 28, 3) := by decide +kernel
theorem dL_law_304 : decode cL_law 304 = .ok (.aload_n 2, 1) := by decide +kernel
theorem dL_law_305 : decode cL_law 305 = .ok (.aload_n 0, 1) := by decide +kernel
theorem dL_law_306 : decode cL_law 306 = .ok (.iload_n 3, 1) := by decide +kernel
theorem dL_law_307 : decode cL_law 307 = .ok (.iconst 1, 1) := by decide +kernel
theorem dL_law_308 : decode cL_law 308 = .ok (.iadd, 1) := by decide +kernel
theorem dL_law_309 : decode cL_law 309 = .ok (.iaload, 1) := by decide +kernel
theorem dL_law_310 : decode cL_law 310 = .ok (.invokevirtual 32, 3) := by decide +kernel
theorem dL_law_313 : decode cL_law 313 = .ok (.if_icmp .eq 659, 3) := by decide +kernel
theorem dL_law_316 : decode cL_law 316 = .ok (.iconst 0, 1) := by decide +kernel
theorem dL_law_317 : decode cL_law 317 = .ok (.ireturn, 1) := by decide +kernel
theorem dL_law_318 : decode cL_law 318 = .ok (.aload_n 1, 1) := by decide +kernel
theorem dL_law_319 : decode cL_law 319 = .ok (.aload_n 0, 1) := by decide +kernel
theorem dL_law_320 : decode cL_law 320 = .ok (.iload_n 3, 1) := by decide +kernel
theorem dL_law_321 : decode cL_law 321 = .ok (.iconst 1, 1) := by decide +kernel
theorem dL_law_322 : decode cL_law 322 = .ok (.iadd, 1) := by decide +kernel
theorem dL_law_323 : decode cL_law 323 = .ok (.iaload, 1) := by decide +kernel
theorem dL_law_324 : decode cL_law 324 = .ok (.aload_n 0, 1) := by decide +kernel
theorem dL_law_325 : decode cL_law 325 = .ok (.iload_n 3, 1) := by decide +kernel
theorem dL_law_326 : decode cL_law 326 = .ok (.iconst 2, 1) := by decide +kernel
theorem dL_law_327 : decode cL_law 327 = .ok (.iadd, 1) := by decide +kernel
theorem dL_law_328 : decode cL_law 328 = .ok (.iaload, 1) := by decide +kernel
theorem dL_law_329 : decode cL_law 329 = .ok (.invokevirtual 33, 3) := by decide +kernel
theorem dL_law_332 : decode cL_law 332 = .ok (.aload_n 2, 1) := by decide +kernel
theorem dL_law_333 : decode cL_law 333 = .ok (.aload_n 0, 1) := by decide +kernel
theorem dL_law_334 : decode cL_law 334 = .ok (.iload_n 3, 1) := by decide +kernel
theorem dL_law_335 : decode cL_law 335 = .ok (.iconst 1, 1) := by decide +kernel
theorem dL_law_336 : decode cL_law 336 = .ok (.iadd, 1) := by decide +kernel
theorem dL_law_337 : decode cL_law 337 = .ok (.iaload, 1) := by decide +kernel
theorem dL_law_338 : decode cL_law 338 = .ok (.aload_n 0, 1) := by decide +kernel
theorem dL_law_339 : decode cL_law 339 = .ok (.iload_n 3, 1) := by decide +kernel
theorem dL_law_340 : decode cL_law 340 = .ok (.iconst 2, 1) := by decide +kernel
theorem dL_law_341 : decode cL_law 341 = .ok (.iadd, 1) := by decide +kernel
theorem dL_law_342 : decode cL_law 342 = .ok (.iaload, 1) := by decide +kernel
theorem dL_law_343 : decode cL_law 343 = .ok (.invokevirtual 37, 3) := by decide +kernel
theorem dL_law_346 : decode cL_law 346 = .ok (.if_icmp .eq 626, 3) := by decide +kernel
theorem dL_law_349 : decode cL_law 349 = .ok (.iconst 0, 1) := by decide +kernel
theorem dL_law_350 : decode cL_law 350 = .ok (.ireturn, 1) := by decide +kernel
theorem dL_law_351 : decode cL_law 351 = .ok (.aload_n 1, 1) := by decide +kernel
theorem dL_law_352 : decode cL_law 352 = .ok (.aload_n 0, 1) := by decide +kernel
theorem dL_law_353 : decode cL_law 353 = .ok (.iload_n 3, 1) := by decide +kernel
theorem dL_law_354 : decode cL_law 354 = .ok (.iconst 1, 1) := by decide +kernel
theorem dL_law_355 : decode cL_law 355 = .ok (.iadd, 1) := by decide +kernel
theorem dL_law_356 : decode cL_law 356 = .ok (.iaload, 1) := by decide +kernel
theorem dL_law_357 : decode cL_law 357 = .ok (.invokevirtual 38, 3) := by decide +kernel
theorem dL_law_360 : decode cL_law 360 = .ok (.aload_n 2, 1) := by decide +kernel
theorem dL_law_361 : decode cL_law 361 = .ok (.aload_n 0, 1) := by decide +kernel
theorem dL_law_362 : decode cL_law 362 = .ok (.iload_n 3, 1) := by decide +kernel
theorem dL_law_363 : decode cL_law 363 = .ok (.iconst 1, 1) := by decide +kernel
theorem dL_law_364 : decode cL_law 364 = .ok (.iadd, 1) := by decide +kernel
theorem dL_law_365 : decode cL_law 365 = .ok (.iaload, 1) := by decide +kernel
theorem dL_law_366 : decode cL_law 366 = .ok (.invokevirtual 41, 3) := by decide +kernel
theorem dL_law_369 : decode cL_law 369 = .ok (.if_icmp .eq 603, 3) := by decide +kernel
theorem dL_law_372 : decode cL_law 372 = .ok (.iconst 0, 1) := by decide +kernel
theorem dL_law_373 : decode cL_law 373 = .ok (.ireturn, 1) := by decide +kernel
theorem dL_law_374 : decode cL_law 374 = .ok (.aload_n 1, 1) := by decide +kernel
theorem dL_law_375 : decode cL_law 375 = .ok (.aload_n 0, 1) := by decide +kernel
theorem dL_law_376 : decode cL_law 376 = .ok (.iload_n 3, 1) := by decide +kernel
theorem dL_law_377 : decode cL_law 377 = .ok (.iconst 1, 1) := by decide +kernel
theorem dL_law_378 : decode cL_law 378 = .ok (.iadd, 1) := by decide +kernel
theorem dL_law_379 : decode cL_law 379 = .ok (.iaload, 1) := by decide +kernel
theorem dL_law_380 : decode cL_law 380 = .ok (.invokevirtual 42, 3) := by decide +kernel
theorem dL_law_383 : decode cL_law 383 = .ok (.aload_n 2, 1) := by decide +kernel
theorem dL_law_384 : decode cL_law 384 = .ok (.aload_n 0, 1) := by decide +kernel
theorem dL_law_385 : decode cL_law 385 = .ok (.iload_n 3, 1) := by decide +kernel
theorem dL_law_386 : decode cL_law 386 = .ok (.iconst 1, 1) := by decide +kernel
theorem dL_law_387 : decode cL_law 387 = .ok (.iadd, 1) := by decide +kernel
theorem dL_law_388 : decode cL_law 388 = .ok (.iaload, 1) := by decide +kernel
theorem dL_law_389 : decode cL_law 389 = .ok (.invokevirtual 45, 3) := by decide +kernel
theorem dL_law_392 : decode cL_law 392 = .ok (.if_icmp .eq 580, 3) := by decide +kernel
theorem dL_law_395 : decode cL_law 395 = .ok (.iconst 0, 1) := by decide +kernel
theorem dL_law_396 : decode cL_law 396 = .ok (.ireturn, 1) := by decide +kernel
theorem dL_law_397 : decode cL_law 397 = .ok (.aload_n 1, 1) := by decide +kernel
theorem dL_law_398 : decode cL_law 398 = .ok (.aload_n 0, 1) := by decide +kernel
theorem dL_law_399 : decode cL_law 399 = .ok (.iload_n 3, 1) := by decide +kernel
theorem dL_law_400 : decode cL_law 400 = .ok (.iconst 1, 1) := by decide +kernel
theorem dL_law_401 : decode cL_law 401 = .ok (.iadd, 1) := by decide +kernel
theorem dL_law_402 : decode cL_law 402 = .ok (.iaload, 1) := by decide +kernel
theorem dL_law_403 : decode cL_law 403 = .ok (.aload_n 0, 1) := by decide +kernel
theorem dL_law_404 : decode cL_law 404 = .ok (.iload_n 3, 1) := by decide +kernel
theorem dL_law_405 : decode cL_law 405 = .ok (.iconst 2, 1) := by decide +kernel
theorem dL_law_406 : decode cL_law 406 = .ok (.iadd, 1) := by decide +kernel
theorem dL_law_407 : decode cL_law 407 = .ok (.iaload, 1) := by decide +kernel
theorem dL_law_408 : decode cL_law 408 = .ok (.invokevirtual 46, 3) := by decide +kernel
theorem dL_law_411 : decode cL_law 411 = .ok (.aload_n 2, 1) := by decide +kernel
theorem dL_law_412 : decode cL_law 412 = .ok (.aload_n 0, 1) := by decide +kernel
theorem dL_law_413 : decode cL_law 413 = .ok (.iload_n 3, 1) := by decide +kernel
theorem dL_law_414 : decode cL_law 414 = .ok (.iconst 1, 1) := by decide +kernel
theorem dL_law_415 : decode cL_law 415 = .ok (.iadd, 1) := by decide +kernel
theorem dL_law_416 : decode cL_law 416 = .ok (.iaload, 1) := by decide +kernel
theorem dL_law_417 : decode cL_law 417 = .ok (.aload_n 0, 1) := by decide +kernel
theorem dL_law_418 : decode cL_law 418 = .ok (.iload_n 3, 1) := by decide +kernel
theorem dL_law_419 : decode cL_law 419 = .ok (.iconst 2, 1) := by decide +kernel
theorem dL_law_420 : decode cL_law 420 = .ok (.iadd, 1) := by decide +kernel
theorem dL_law_421 : decode cL_law 421 = .ok (.iaload, 1) := by decide +kernel
theorem dL_law_422 : decode cL_law 422 = .ok (.invokevirtual 50, 3) := by decide +kernel
theorem dL_law_425 : decode cL_law 425 = .ok (.if_icmp .eq 547, 3) := by decide +kernel
theorem dL_law_428 : decode cL_law 428 = .ok (.iconst 0, 1) := by decide +kernel
theorem dL_law_429 : decode cL_law 429 = .ok (.ireturn, 1) := by decide +kernel
theorem dL_law_430 : decode cL_law 430 = .ok (.aload_n 1, 1) := by decide +kernel
theorem dL_law_431 : decode cL_law 431 = .ok (.aload_n 0, 1) := by decide +kernel
theorem dL_law_432 : decode cL_law 432 = .ok (.iload_n 3, 1) := by decide +kernel
theorem dL_law_433 : decode cL_law 433 = .ok (.iconst 1, 1) := by decide +kernel
theorem dL_law_434 : decode cL_law 434 = .ok (.iadd, 1) := by decide +kernel
theorem dL_law_435 : decode cL_law 435 = .ok (.iaload, 1) := by decide +kernel
theorem dL_law_436 : decode cL_law 436 = .ok (.aload_n 0, 1) := by decide +kernel
theorem dL_law_437 : decode cL_law 437 = .ok (.iload_n 3, 1) := by decide +kernel
theorem dL_law_438 : decode cL_law 438 = .ok (.iconst 2, 1) := by decide +kernel
theorem dL_law_439 : decode cL_law 439 = .ok (.iadd, 1) := by decide +kernel
theorem dL_law_440 : decode cL_law 440 = .ok (.iaload, 1) := by decide +kernel
theorem dL_law_441 : decode cL_law 441 = .ok (.invokevirtual 51, 3) := by decide +kernel
theorem dL_law_444 : decode cL_law 444 = .ok (.aload_n 2, 1) := by decide +kernel
theorem dL_law_445 : decode cL_law 445 = .ok (.aload_n 0, 1) := by decide +kernel
theorem dL_law_446 : decode cL_law 446 = .ok (.iload_n 3, 1) := by decide +kernel
theorem dL_law_447 : decode cL_law 447 = .ok (.iconst 1, 1) := by decide +kernel
theorem dL_law_448 : decode cL_law 448 = .ok (.iadd, 1) := by decide +kernel
theorem dL_law_449 : decode cL_law 449 = .ok (.iaload, 1) := by decide +kernel
theorem dL_law_450 : decode cL_law 450 = .ok (.aload_n 0, 1) := by decide +kernel
theorem dL_law_451 : decode cL_law 451 = .ok (.iload_n 3, 1) := by decide +kernel
theorem dL_law_452 : decode cL_law 452 = .ok (.iconst 2, 1) := by decide +kernel
theorem dL_law_453 : decode cL_law 453 = .ok (.iadd, 1) := by decide +kernel
theorem dL_law_454 : decode cL_law 454 = .ok (.iaload, 1) := by decide +kernel
theorem dL_law_455 : decode cL_law 455 = .ok (.invokevirtual 54, 3) := by decide +kernel
theorem dL_law_458 : decode cL_law 458 = .ok (.if_icmp .eq 514, 3) := by decide +kernel
theorem dL_law_461 : decode cL_law 461 = .ok (.iconst 0, 1) := by decide +kernel
theorem dL_law_462 : decode cL_law 462 = .ok (.ireturn, 1) := by decide +kernel
theorem dL_law_463 : decode cL_law 463 = .ok (.aload_n 1, 1) := by decide +kernel
theorem dL_law_464 : decode cL_law 464 = .ok (.aload_n 0, 1) := by decide +kernel
theorem dL_law_465 : decode cL_law 465 = .ok (.iload_n 3, 1) := by decide +kernel
theorem dL_law_466 : decode cL_law 466 = .ok (.iconst 1, 1) := by decide +kernel
theorem dL_law_467 : decode cL_law 467 = .ok (.iadd, 1) := by decide +kernel
theorem dL_law_468 : decode cL_law 468 = .ok (.iaload, 1) := by decide +kernel
theorem dL_law_469 : decode cL_law 469 = .ok (.aload_n 0, 1) := by decide +kernel
theorem dL_law_470 : decode cL_law 470 = .ok (.iload_n 3, 1) := by decide +kernel
theorem dL_law_471 : decode cL_law 471 = .ok (.iconst 2, 1) := by decide +kernel
theorem dL_law_472 : decode cL_law 472 = .ok (.iadd, 1) := by decide +kernel
theorem dL_law_473 : decode cL_law 473 = .ok (.iaload, 1) := by decide +kernel
theorem dL_law_474 : decode cL_law 474 = .ok (.aload_n 0, 1) := by decide +kernel
theorem dL_law_475 : decode cL_law 475 = .ok (.iload_n 3, 1) := by decide +kernel
theorem dL_law_476 : decode cL_law 476 = .ok (.iconst 3, 1) := by decide +kernel
theorem dL_law_477 : decode cL_law 477 = .ok (.iadd, 1) := by decide +kernel
theorem dL_law_478 : decode cL_law 478 = .ok (.iaload, 1) := by decide +kernel
theorem dL_law_479 : decode cL_law 479 = .ok (.aload_n 0, 1) := by decide +kernel
theorem dL_law_480 : decode cL_law 480 = .ok (.iload_n 3, 1) := by decide +kernel
theorem dL_law_481 : decode cL_law 481 = .ok (.iconst 4, 1) := by decide +kernel
theorem dL_law_482 : decode cL_law 482 = .ok (.iadd, 1) := by decide +kernel
theorem dL_law_483 : decode cL_law 483 = .ok (.iaload, 1) := by decide +kernel
theorem dL_law_484 : decode cL_law 484 = .ok (.invokevirtual 55, 3) := by decide +kernel
theorem dL_law_487 : decode cL_law 487 = .ok (.aload_n 2, 1) := by decide +kernel
theorem dL_law_488 : decode cL_law 488 = .ok (.aload_n 0, 1) := by decide +kernel
theorem dL_law_489 : decode cL_law 489 = .ok (.iload_n 3, 1) := by decide +kernel
theorem dL_law_490 : decode cL_law 490 = .ok (.iconst 1, 1) := by decide +kernel
theorem dL_law_491 : decode cL_law 491 = .ok (.iadd, 1) := by decide +kernel
theorem dL_law_492 : decode cL_law 492 = .ok (.iaload, 1) := by decide +kernel
theorem dL_law_493 : decode cL_law 493 = .ok (.aload_n 0, 1) := by decide +kernel
theorem dL_law_494 : decode cL_law 494 = .ok (.iload_n 3, 1) := by decide +kernel
theorem dL_law_495 : decode cL_law 495 = .ok (.iconst 2, 1) := by decide +kernel
theorem dL_law_496 : decode cL_law 496 = .ok (.iadd, 1) := by decide +kernel
theorem dL_law_497 : decode cL_law 497 = .ok (.iaload, 1) := by decide +kernel
theorem dL_law_498 : decode cL_law 498 = .ok (.aload_n 0, 1) := by decide +kernel
theorem dL_law_499 : decode cL_law 499 = .ok (.iload_n 3, 1) := by decide +kernel
theorem dL_law_500 : decode cL_law 500 = .ok (.iconst 3, 1) := by decide +kernel
theorem dL_law_501 : decode cL_law 501 = .ok (.iadd, 1) := by decide +kernel
theorem dL_law_502 : decode cL_law 502 = .ok (.iaload, 1) := by decide +kernel
theorem dL_law_503 : decode cL_law 503 = .ok (.aload_n 0, 1) := by decide +kernel
theorem dL_law_504 : decode cL_law 504 = .ok (.iload_n 3, 1) := by decide +kernel
theorem dL_law_505 : decode cL_law 505 = .ok (.iconst 4, 1) := by decide +kernel
theorem dL_law_506 : decode cL_law 506 = .ok (.iadd, 1) := by decide +kernel
theorem dL_law_507 : decode cL_law 507 = .ok (.iaload, 1) := by decide +kernel
theorem dL_law_508 : decode cL_law 508 = .ok (.invokevirtual 59, 3) := by decide +kernel
theorem dL_law_511 : decode cL_law 511 = .ok (.if_icmp .eq 461, 3) := by decide +kernel
theorem dL_law_514 : decode cL_law 514 = .ok (.iconst 0, 1) := by decide +kernel
theorem dL_law_515 : decode cL_law 515 = .ok (.ireturn, 1) := by decide +kernel
theorem dL_law_516 : decode cL_law 516 = .ok (.aload_n 1, 1) := by decide +kernel
theorem dL_law_517 : decode cL_law 517 = .ok (.aload_n 0, 1) := by decide +kernel
theorem dL_law_518 : decode cL_law 518 = .ok (.iload_n 3, 1) := by decide +kernel
theorem dL_law_519 : decode cL_law 519 = .ok (.iconst 1, 1) := by decide +kernel
theorem dL_law_520 : decode cL_law 520 = .ok (.iadd, 1) := by decide +kernel
theorem dL_law_521 : decode cL_law 521 = .ok (.iaload, 1) := by decide +kernel
theorem dL_law_522 : decode cL_law 522 = .ok (.aload_n 0, 1) := by decide +kernel
theorem dL_law_523 : decode cL_law 523 = .ok (.iload_n 3, 1) := by decide +kernel
theorem dL_law_524 : decode cL_law 524 = .ok (.iconst 2, 1) := by decide +kernel
theorem dL_law_525 : decode cL_law 525 = .ok (.iadd, 1) := by decide +kernel
theorem dL_law_526 : decode cL_law 526 = .ok (.iaload, 1) := by decide +kernel
theorem dL_law_527 : decode cL_law 527 = .ok (.aload_n 0, 1) := by decide +kernel
theorem dL_law_528 : decode cL_law 528 = .ok (.iload_n 3, 1) := by decide +kernel
theorem dL_law_529 : decode cL_law 529 = .ok (.iconst 3, 1) := by decide +kernel
theorem dL_law_530 : decode cL_law 530 = .ok (.iadd, 1) := by decide +kernel
theorem dL_law_531 : decode cL_law 531 = .ok (.iaload, 1) := by decide +kernel
theorem dL_law_532 : decode cL_law 532 = .ok (.invokevirtual 60, 3) := by decide +kernel
theorem dL_law_535 : decode cL_law 535 = .ok (.aload_n 2, 1) := by decide +kernel
theorem dL_law_536 : decode cL_law 536 = .ok (.aload_n 0, 1) := by decide +kernel
theorem dL_law_537 : decode cL_law 537 = .ok (.iload_n 3, 1) := by decide +kernel
theorem dL_law_538 : decode cL_law 538 = .ok (.iconst 1, 1) := by decide +kernel
theorem dL_law_539 : decode cL_law 539 = .ok (.iadd, 1) := by decide +kernel
theorem dL_law_540 : decode cL_law 540 = .ok (.iaload, 1) := by decide +kernel
theorem dL_law_541 : decode cL_law 541 = .ok (.aload_n 0, 1) := by decide +kernel
theorem dL_law_542 : decode cL_law 542 = .ok (.iload_n 3, 1) := by decide +kernel
theorem dL_law_543 : decode cL_law 543 = .ok (.iconst 2, 1) := by decide +kernel
theorem dL_law_544 : decode cL_law 544 = .ok (.iadd, 1) := by decide +kernel
theorem dL_law_545 : decode cL_law 545 = .ok (.iaload, 1) := by decide +kernel
theorem dL_law_546 : decode cL_law 546 = .ok (.aload_n 0, 1) := by decide +kernel
theorem dL_law_547 : decode cL_law 547 = .ok (.iload_n 3, 1) := by decide +kernel
theorem dL_law_548 : decode cL_law 548 = .ok (.iconst 3, 1) := by decide +kernel
theorem dL_law_549 : decode cL_law 549 = .ok (.iadd, 1) := by decide +kernel
theorem dL_law_550 : decode cL_law 550 = .ok (.iaload, 1) := by decide +kernel
theorem dL_law_551 : decode cL_law 551 = .ok (.invokevirtual 64, 3) := by decide +kernel
theorem dL_law_554 : decode cL_law 554 = .ok (.if_icmp .eq 418, 3) := by decide +kernel
theorem dL_law_557 : decode cL_law 557 = .ok (.iconst 0, 1) := by decide +kernel
theorem dL_law_558 : decode cL_law 558 = .ok (.ireturn, 1) := by decide +kernel
theorem dL_law_559 : decode cL_law 559 = .ok (.aload_n 1, 1) := by decide +kernel
theorem dL_law_560 : decode cL_law 560 = .ok (.aload_n 0, 1) := by decide +kernel
theorem dL_law_561 : decode cL_law 561 = .ok (.iload_n 3, 1) := by decide +kernel
theorem dL_law_562 : decode cL_law 562 = .ok (.iconst 1, 1) := by decide +kernel
theorem dL_law_563 : decode cL_law 563 = .ok (.iadd, 1) := by decide +kernel
theorem dL_law_564 : decode cL_law 564 = .ok (.iaload, 1) := by decide +kernel
theorem dL_law_565 : decode cL_law 565 = .ok (.aload_n 0, 1) := by decide +kernel
theorem dL_law_566 : decode cL_law 566 = .ok (.iload_n 3, 1) := by decide +kernel
theorem dL_law_567 : decode cL_law 567 = .ok (.iconst 2, 1) := by decide +kernel
theorem dL_law_568 : decode cL_law 568 = .ok (.iadd, 1) := by decide +kernel
theorem dL_law_569 : decode cL_law 569 = .ok (.iaload, 1) := by decide +kernel
theorem dL_law_570 : decode cL_law 570 = .ok (.aload_n 0, 1) := by decide +kernel
theorem dL_law_571 : decode cL_law 571 = .ok (.iload_n 3, 1) := by decide +kernel
theorem dL_law_572 : decode cL_law 572 = .ok (.iconst 3, 1) := by decide +kernel
theorem dL_law_573 : decode cL_law 573 = .ok (.iadd, 1) := by decide +kernel
theorem dL_law_574 : decode cL_law 574 = .ok (.iaload, 1) := by decide +kernel
theorem dL_law_575 : decode cL_law 575 = .ok (.aload_n 0, 1) := by decide +kernel
theorem dL_law_576 : decode cL_law 576 = .ok (.iload_n 3, 1) := by decide +kernel
theorem dL_law_577 : decode cL_law 577 = .ok (.iconst 4, 1) := by decide +kernel
theorem dL_law_578 : decode cL_law 578 = .ok (.iadd, 1) := by decide +kernel
theorem dL_law_579 : decode cL_law 579 = .ok (.iaload, 1) := by decide +kernel
theorem dL_law_580 : decode cL_law 580 = .ok (.invokevirtual 65, 3) := by decide +kernel
theorem dL_law_583 : decode cL_law 583 = .ok (.aload_n 2, 1) := by decide +kernel
theorem dL_law_584 : decode cL_law 584 = .ok (.aload_n 0, 1) := by decide +kernel
theorem dL_law_585 : decode cL_law 585 = .ok (.iload_n 3, 1) := by decide +kernel
theorem dL_law_586 : decode cL_law 586 = .ok (.iconst 1, 1) := by decide +kernel
theorem dL_law_587 : decode cL_law 587 = .ok (.iadd, 1) := by decide +kernel
theorem dL_law_588 : decode cL_law 588 = .ok (.iaload, 1) := by decide +kernel
theorem dL_law_589 : decode cL_law 589 = .ok (.aload_n 0, 1) := by decide +kernel
theorem dL_law_590 : decode cL_law 590 = .ok (.iload_n 3, 1) := by decide +kernel
theorem dL_law_591 : decode cL_law 591 = .ok (.iconst 2, 1) := by decide +kernel
theorem dL_law_592 : decode cL_law 592 = .ok (.iadd, 1) := by decide +kernel
theorem dL_law_593 : decode cL_law 593 = .ok (.iaload, 1) := by decide +kernel
theorem dL_law_594 : decode cL_law 594 = .ok (.aload_n 0, 1) := by decide +kernel
theorem dL_law_595 : decode cL_law 595 = .ok (.iload_n 3, 1) := by decide +kernel
theorem dL_law_596 : decode cL_law 596 = .ok (.iconst 3, 1) := by decide +kernel
theorem dL_law_597 : decode cL_law 597 = .ok (.iadd, 1) := by decide +kernel
theorem dL_law_598 : decode cL_law 598 = .ok (.iaload, 1) := by decide +kernel
theorem dL_law_599 : decode cL_law 599 = .ok (.aload_n 0, 1) := by decide +kernel
theorem dL_law_600 : decode cL_law 600 = .ok (.iload_n 3, 1) := by decide +kernel
theorem dL_law_601 : decode cL_law 601 = .ok (.iconst 4, 1) := by decide +kernel
theorem dL_law_602 : decode cL_law 602 = .ok (.iadd, 1) := by decide +kernel
theorem dL_law_603 : decode cL_law 603 = .ok (.iaload, 1) := by decide +kernel
theorem dL_law_604 : decode cL_law 604 = .ok (.invokevirtual 68, 3) := by decide +kernel
theorem dL_law_607 : decode cL_law 607 = .ok (.if_icmp .eq 365, 3) := by decide +kernel
theorem dL_law_610 : decode cL_law 610 = .ok (.iconst 0, 1) := by decide +kernel
theorem dL_law_611 : decode cL_law 611 = .ok (.ireturn, 1) := by decide +kernel
theorem dL_law_612 : decode cL_law 612 = .ok (.aload_n 1, 1) := by decide +kernel
theorem dL_law_613 : decode cL_law 613 = .ok (.aload_n 0, 1) := by decide +kernel
theorem dL_law_614 : decode cL_law 614 = .ok (.iload_n 3, 1) := by decide +kernel
theorem dL_law_615 : decode cL_law 615 = .ok (.iconst 1, 1) := by decide +kernel
theorem dL_law_616 : decode cL_law 616 = .ok (.iadd, 1) := by decide +kernel
theorem dL_law_617 : decode cL_law 617 = .ok (.iaload, 1) := by decide +kernel
theorem dL_law_618 : decode cL_law 618 = .ok (.aload_n 0, 1) := by decide +kernel
theorem dL_law_619 : decode cL_law 619 = .ok (.iload_n 3, 1) := by decide +kernel
theorem dL_law_620 : decode cL_law 620 = .ok (.iconst 2, 1) := by decide +kernel
theorem dL_law_621 : decode cL_law 621 = .ok (.iadd, 1) := by decide +kernel
theorem dL_law_622 : decode cL_law 622 = .ok (.iaload, 1) := by decide +kernel
theorem dL_law_623 : decode cL_law 623 = .ok (.aload_n 0, 1) := by decide +kernel
theorem dL_law_624 : decode cL_law 624 = .ok (.iload_n 3, 1) := by decide +kernel
theorem dL_law_625 : decode cL_law 625 = .ok (.iconst 3, 1) := by decide +kernel
theorem dL_law_626 : decode cL_law 626 = .ok (.iadd, 1) := by decide +kernel
theorem dL_law_627 : decode cL_law 627 = .ok (.iaload, 1) := by decide +kernel
theorem dL_law_628 : decode cL_law 628 = .ok (.aload_n 0, 1) := by decide +kernel
theorem dL_law_629 : decode cL_law 629 = .ok (.iload_n 3, 1) := by decide +kernel
theorem dL_law_630 : decode cL_law 630 = .ok (.iconst 4, 1) := by decide +kernel
theorem dL_law_631 : decode cL_law 631 = .ok (.iadd, 1) := by decide +kernel
theorem dL_law_632 : decode cL_law 632 = .ok (.iaload, 1) := by decide +kernel
theorem dL_law_633 : decode cL_law 633 = .ok (.aload_n 0, 1) := by decide +kernel
theorem dL_law_634 : decode cL_law 634 = .ok (.iload_n 3, 1) := by decide +kernel
theorem dL_law_635 : decode cL_law 635 = .ok (.iconst 5, 1) := by decide +kernel
theorem dL_law_636 : decode cL_law 636 = .ok (.iadd, 1) := by decide +kernel
theorem dL_law_637 : decode cL_law 637 = .ok (.iaload, 1) := by decide +kernel
theorem dL_law_638 : decode cL_law 638 = .ok (.invokevirtual 69, 3) := by decide +kernel
theorem dL_law_641 : decode cL_law 641 = .ok (.aload_n 2, 1) := by decide +kernel
theorem dL_law_642 : decode cL_law 642 = .ok (.aload_n 0, 1) := by decide +kernel
theorem dL_law_643 : decode cL_law 643 = .ok (.iload_n 3, 1) := by decide +kernel
theorem dL_law_644 : decode cL_law 644 = .ok (.iconst 1, 1) := by decide +kernel
theorem dL_law_645 : decode cL_law 645 = .ok (.iadd, 1) := by decide +kernel
theorem dL_law_646 : decode cL_law 646 = .ok (.iaload, 1) := by decide +kernel
theorem dL_law_647 : decode cL_law 647 = .ok (.aload_n 0, 1) := by decide +kernel
theorem dL_law_648 : decode cL_law 648 = .ok (.iload_n 3, 1) := by decide +kernel
theorem dL_law_649 : decode cL_law 649 = .ok (.iconst 2, 1) := by decide +kernel
theorem dL_law_650 : decode cL_law 650 = .ok (.iadd, 1) := by decide +kernel
theorem dL_law_651 : decode cL_law 651 = .ok (.iaload, 1) := by decide +kernel
theorem dL_law_652 : decode cL_law 652 = .ok (.aload_n 0, 1) := by decide +kernel
theorem dL_law_653 : decode cL_law 653 = .ok (.iload_n 3, 1) := by decide +kernel
theorem dL_law_654 : decode cL_law 654 = .ok (.iconst 3, 1) := by decide +kernel
theorem dL_law_655 : decode cL_law 655 = .ok (.iadd, 1) := by decide +kernel
theorem dL_law_656 : decode cL_law 656 = .ok (.iaload, 1) := by decide +kernel
theorem dL_law_657 : decode cL_law 657 = .ok (.aload_n 0, 1) := by decide +kernel
theorem dL_law_658 : decode cL_law 658 = .ok (.iload_n 3, 1) := by decide +kernel
theorem dL_law_659 : decode cL_law 659 = .ok (.iconst 4, 1) := by decide +kernel
theorem dL_law_660 : decode cL_law 660 = .ok (.iadd, 1) := by decide +kernel
theorem dL_law_661 : decode cL_law 661 = .ok (.iaload, 1) := by decide +kernel
theorem dL_law_662 : decode cL_law 662 = .ok (.aload_n 0, 1) := by decide +kernel
theorem dL_law_663 : decode cL_law 663 = .ok (.iload_n 3, 1) := by decide +kernel
theorem dL_law_664 : decode cL_law 664 = .ok (.iconst 5, 1) := by decide +kernel
theorem dL_law_665 : decode cL_law 665 = .ok (.iadd, 1) := by decide +kernel
theorem dL_law_666 : decode cL_law 666 = .ok (.iaload, 1) := by decide +kernel
theorem dL_law_667 : decode cL_law 667 = .ok (.invokevirtual 72, 3) := by decide +kernel
theorem dL_law_670 : decode cL_law 670 = .ok (.if_icmp .eq 302, 3) := by decide +kernel
theorem dL_law_673 : decode cL_law 673 = .ok (.iconst 0, 1) := by decide +kernel
theorem dL_law_674 : decode cL_law 674 = .ok (.ireturn, 1) := by decide +kernel
theorem dL_law_675 : decode cL_law 675 = .ok (.aload_n 1, 1) := by decide +kernel
theorem dL_law_676 : decode cL_law 676 = .ok (.aload_n 0, 1) := by decide +kernel
theorem dL_law_677 : decode cL_law 677 = .ok (.iload_n 3, 1) := by decide +kernel
theorem dL_law_678 : decode cL_law 678 = .ok (.iconst 1, 1) := by decide +kernel
theorem dL_law_679 : decode cL_law 679 = .ok (.iadd, 1) := by decide +kernel
theorem dL_law_680 : decode cL_law 680 = .ok (.iaload, 1) := by decide +kernel
theorem dL_law_681 : decode cL_law 681 = .ok (.invokevirtual 73, 3) := by decide +kernel
theorem dL_law_684 : decode cL_law 684 = .ok (.aload_n 2, 1) := by decide +kernel
theorem dL_law_685 : decode cL_law 685 = .ok (.aload_n 0, 1) := by decide +kernel
theorem dL_law_686 : decode cL_law 686 = .ok (.iload_n 3, 1) := by decide +kernel
theorem dL_law_687 : decode cL_law 687 = .ok (.iconst 1, 1) := by decide +kernel
theorem dL_law_688 : decode cL_law 688 = .ok (.iadd, 1) := by decide +kernel
theorem dL_law_689 : decode cL_law 689 = .ok (.iaload, 1) := by decide +kernel
theorem dL_law_690 : decode cL_law 690 = .ok (.invokevirtual 76, 3) := by decide +kernel
theorem dL_law_693 : decode cL_law 693 = .ok (.if_icmp .eq 279, 3) := by decide +kernel
theorem dL_law_696 : decode cL_law 696 = .ok (.iconst 0, 1) := by decide +kernel
theorem dL_law_697 : decode cL_law 697 = .ok (.ireturn, 1) := by decide +kernel
theorem dL_law_698 : decode cL_law 698 = .ok (.aload_n 1, 1) := by decide +kernel
theorem dL_law_699 : decode cL_law 699 = .ok (.aload_n 0, 1) := by decide +kernel
theorem dL_law_700 : decode cL_law 700 = .ok (.iload_n 3, 1) := by decide +kernel
theorem dL_law_701 : decode cL_law 701 = .ok (.iconst 1, 1) := by decide +kernel
theorem dL_law_702 : decode cL_law 702 = .ok (.iadd, 1) := by decide +kernel
theorem dL_law_703 : decode cL_law 703 = .ok (.iaload, 1) := by decide +kernel
theorem dL_law_704 : decode cL_law 704 = .ok (.aload_n 0, 1) := by decide +kernel
theorem dL_law_705 : decode cL_law 705 = .ok (.iload_n 3, 1) := by decide +kernel
theorem dL_law_706 : decode cL_law 706 = .ok (.iconst 2, 1) := by decide +kernel
theorem dL_law_707 : decode cL_law 707 = .ok (.iadd, 1) := by decide +kernel
theorem dL_law_708 : decode cL_law 708 = .ok (.iaload, 1) := by decide +kernel
theorem dL_law_709 : decode cL_law 709 = .ok (.invokevirtual 77, 3) := by decide +kernel
theorem dL_law_712 : decode cL_law 712 = .ok (.aload_n 2, 1) := by decide +kernel
theorem dL_law_713 : decode cL_law 713 = .ok (.aload_n 0, 1) := by decide +kernel
theorem dL_law_714 : decode cL_law 714 = .ok (.iload_n 3, 1) := by decide +kernel
theorem dL_law_715 : decode cL_law 715 = .ok (.iconst 1, 1) := by decide +kernel
theorem dL_law_716 : decode cL_law 716 = .ok (.iadd, 1) := by decide +kernel
theorem dL_law_717 : decode cL_law 717 = .ok (.iaload, 1) := by decide +kernel
theorem dL_law_718 : decode cL_law 718 = .ok (.aload_n 0, 1) := by decide +kernel
theorem dL_law_719 : decode cL_law 719 = .ok (.iload_n 3, 1) := by decide +kernel
theorem dL_law_720 : decode cL_law 720 = .ok (.iconst 2, 1) := by decide +kernel
theorem dL_law_721 : decode cL_law 721 = .ok (.iadd, 1) := by decide +kernel
theorem dL_law_722 : decode cL_law 722 = .ok (.iaload, 1) := by decide +kernel
theorem dL_law_723 : decode cL_law 723 = .ok (.invokevirtual 80, 3) := by decide +kernel
theorem dL_law_726 : decode cL_law 726 = .ok (.if_icmp .eq 246, 3) := by decide +kernel
theorem dL_law_729 : decode cL_law 729 = .ok (.iconst 0, 1) := by decide +kernel
theorem dL_law_730 : decode cL_law 730 = .ok (.ireturn, 1) := by decide +kernel
theorem dL_law_731 : decode cL_law 731 = .ok (.aload_n 1, 1) := by decide +kernel
theorem dL_law_732 : decode cL_law 732 = .ok (.aload_n 0, 1) := by decide +kernel
theorem dL_law_733 : decode cL_law 733 = .ok (.iload_n 3, 1) := by decide +kernel
theorem dL_law_734 : decode cL_law 734 = .ok (.iconst 1, 1) := by decide +kernel
theorem dL_law_735 : decode cL_law 735 = .ok (.iadd, 1) := by decide +kernel
theorem dL_law_736 : decode cL_law 736 = .ok (.iaload, 1) := by decide +kernel
theorem dL_law_737 : decode cL_law 737 = .ok (.aload_n 0, 1) := by decide +kernel
theorem dL_law_738 : decode cL_law 738 = .ok (.iload_n 3, 1) := by decide +kernel
theorem dL_law_739 : decode cL_law 739 = .ok (.iconst 2, 1) := by decide +kernel
theorem dL_law_740 : decode cL_law 740 = .ok (.iadd, 1) := by decide +kernel
theorem dL_law_741 : decode cL_law 741 = .ok (.iaload, 1) := by decide +kernel
theorem dL_law_742 : decode cL_law 742 = .ok (.aload_n 0, 1) := by decide +kernel
theorem dL_law_743 : decode cL_law 743 = .ok (.iload_n 3, 1) := by decide +kernel
theorem dL_law_744 : decode cL_law 744 = .ok (.iconst 3, 1) := by decide +kernel
theorem dL_law_745 : decode cL_law 745 = .ok (.iadd, 1) := by decide +kernel
theorem dL_law_746 : decode cL_law 746 = .ok (.iaload, 1) := by decide +kernel
theorem dL_law_747 : decode cL_law 747 = .ok (.invokevirtual 81, 3) := by decide +kernel
theorem dL_law_750 : decode cL_law 750 = .ok (.aload_n 2, 1) := by decide +kernel
theorem dL_law_751 : decode cL_law 751 = .ok (.aload_n 0, 1) := by decide +kernel
theorem dL_law_752 : decode cL_law 752 = .ok (.iload_n 3, 1) := by decide +kernel
theorem dL_law_753 : decode cL_law 753 = .ok (.iconst 1, 1) := by decide +kernel
theorem dL_law_754 : decode cL_law 754 = .ok (.iadd, 1) := by decide +kernel
theorem dL_law_755 : decode cL_law 755 = .ok (.iaload, 1) := by decide +kernel
theorem dL_law_756 : decode cL_law 756 = .ok (.aload_n 0, 1) := by decide +kernel
theorem dL_law_757 : decode cL_law 757 = .ok (.iload_n 3, 1) := by decide +kernel
theorem dL_law_758 : decode cL_law 758 = .ok (.iconst 2, 1) := by decide +kernel
theorem dL_law_759 : decode cL_law 759 = .ok (.iadd, 1) := by decide +kernel
theorem dL_law_760 : decode cL_law 760 = .ok (.iaload, 1) := by decide +kernel
theorem dL_law_761 : decode cL_law 761 = .ok (.aload_n 0, 1) := by decide +kernel
theorem dL_law_762 : decode cL_law 762 = .ok (.iload_n 3, 1) := by decide +kernel
theorem dL_law_763 : decode cL_law 763 = .ok (.iconst 3, 1) := by decide +kernel
theorem dL_law_764 : decode cL_law 764 = .ok (.iadd, 1) := by decide +kernel
theorem dL_law_765 : decode cL_law 765 = .ok (.iaload, 1) := by decide +kernel
theorem dL_law_766 : decode cL_law 766 = .ok (.invokevirtual 84, 3) := by decide +kernel
theorem dL_law_769 : decode cL_law 769 = .ok (.if_icmp .eq 203, 3) := by decide +kernel
theorem dL_law_772 : decode cL_law 772 = .ok (.iconst 0, 1) := by decide +kernel
theorem dL_law_773 : decode cL_law 773 = .ok (.ireturn, 1) := by decide +kernel
theorem dL_law_774 : decode cL_law 774 = .ok (.aload_n 1, 1) := by decide +kernel
theorem dL_law_775 : decode cL_law 775 = .ok (.aload_n 0, 1) := by decide +kernel
theorem dL_law_776 : decode cL_law 776 = .ok (.iload_n 3, 1) := by decide +kernel
theorem dL_law_777 : decode cL_law 777 = .ok (.iconst 1, 1) := by decide +kernel
theorem dL_law_778 : decode cL_law 778 = .ok (.iadd, 1) := by decide +kernel
theorem dL_law_779 : decode cL_law 779 = .ok (.iaload, 1) := by decide +kernel
theorem dL_law_780 : decode cL_law 780 = .ok (.aload_n 0, 1) := by decide +kernel
theorem dL_law_781 : decode cL_law 781 = .ok (.iload_n 3, 1) := by decide +kernel
theorem dL_law_782 : decode cL_law 782 = .ok (.iconst 2, 1) := by decide +kernel
theorem dL_law_783 : decode cL_law 783 = .ok (.iadd, 1) := by decide +kernel
theorem dL_law_784 : decode cL_law 784 = .ok (.iaload, 1) := by decide +kernel
theorem dL_law_785 : decode cL_law 785 = .ok (.invokevirtual 85, 3) := by decide +kernel
theorem dL_law_788 : decode cL_law 788 = .ok (.aload_n 2, 1) := by decide +kernel
theorem dL_law_789 : decode cL_law 789 = .ok (.aload_n 0, 1) := by decide +kernel
theorem dL_law_790 : decode cL_law 790 = .ok (.iload_n 3, 1) := by decide +kernel
theorem dL_law_791 : decode cL_law 791 = .ok (.iconst 1, 1) := by decide +kernel
theorem dL_law_792 : decode cL_law 792 = .ok (.iadd, 1) := by decide +kernel
theorem dL_law_793 : decode cL_law 793 = .ok (.iaload, 1) := by decide +kernel
theorem dL_law_794 : decode cL_law 794 = .ok (.aload_n 0, 1) := by decide +kernel
theorem dL_law_795 : decode cL_law 795 = .ok (.iload_n 3, 1) := by decide +kernel
theorem dL_law_796 : decode cL_law 796 = .ok (.iconst 2, 1) := by decide +kernel
theorem dL_law_797 : decode cL_law 797 = .ok (.iadd, 1) := by decide +kernel
theorem dL_law_798 : decode cL_law 798 = .ok (.iaload, 1) := by decide +kernel
theorem dL_law_799 : decode cL_law 799 = .ok (.invokevirtual 88, 3) := by decide +kernel
theorem dL_law_802 : decode cL_law 802 = .ok (.if_icmp .eq 170, 3) := by decide +kernel
theorem dL_law_805 : decode cL_law 805 = .ok (.iconst 0, 1) := by decide +kernel
theorem dL_law_806 : decode cL_law 806 = .ok (.ireturn, 1) := by decide +kernel
theorem dL_law_807 : decode cL_law 807 = .ok (.aload_n 1, 1) := by decide +kernel
theorem dL_law_808 : decode cL_law 808 = .ok (.aload_n 0, 1) := by decide +kernel
theorem dL_law_809 : decode cL_law 809 = .ok (.iload_n 3, 1) := by decide +kernel
theorem dL_law_810 : decode cL_law 810 = .ok (.iconst 1, 1) := by decide +kernel
theorem dL_law_811 : decode cL_law 811 = .ok (.iadd, 1) := by decide +kernel
theorem dL_law_812 : decode cL_law 812 = .ok (.iaload, 1) := by decide +kernel
theorem dL_law_813 : decode cL_law 813 = .ok (.aload_n 0, 1) := by decide +kernel
theorem dL_law_814 : decode cL_law 814 = .ok (.iload_n 3, 1) := by decide +kernel
theorem dL_law_815 : decode cL_law 815 = .ok (.iconst 2, 1) := by decide +kernel
theorem dL_law_816 : decode cL_law 816 = .ok (.iadd, 1) := by decide +kernel
theorem dL_law_817 : decode cL_law 817 = .ok (.iaload, 1) := by decide +kernel
theorem dL_law_818 : decode cL_law 818 = .ok (.aload_n 0, 1) := by decide +kernel
theorem dL_law_819 : decode cL_law 819 = .ok (.iload_n 3, 1) := by decide +kernel
theorem dL_law_820 : decode cL_law 820 = .ok (.iconst 3, 1) := by decide +kernel
theorem dL_law_821 : decode cL_law 821 = .ok (.iadd, 1) := by decide +kernel
theorem dL_law_822 : decode cL_law 822 = .ok (.iaload, 1) := by decide +kernel
theorem dL_law_823 : decode cL_law 823 = .ok (.invokevirtual 89, 3) := by decide +kernel
theorem dL_law_826 : decode cL_law 826 = .ok (.aload_n 2, 1) := by decide +kernel
theorem dL_law_827 : decode cL_law 827 = .ok (.aload_n 0, 1) := by decide +kernel
theorem dL_law_828 : decode cL_law 828 = .ok (.iload_n 3, 1) := by decide +kernel
theorem dL_law_829 : decode cL_law 829 = .ok (.iconst 1, 1) := by decide +kernel
theorem dL_law_830 : decode cL_law 830 = .ok (.iadd, 1) := by decide +kernel
theorem dL_law_831 : decode cL_law 831 = .ok (.iaload, 1) := by decide +kernel
theorem dL_law_832 : decode cL_law 832 = .ok (.aload_n 0, 1) := by decide +kernel
theorem dL_law_833 : decode cL_law 833 = .ok (.iload_n 3, 1) := by decide +kernel
theorem dL_law_834 : decode cL_law 834 = .ok (.iconst 2, 1) := by decide +kernel
theorem dL_law_835 : decode cL_law 835 = .ok (.iadd, 1) := by decide +kernel
theorem dL_law_836 : decode cL_law 836 = .ok (.iaload, 1) := by decide +kernel
theorem dL_law_837 : decode cL_law 837 = .ok (.aload_n 0, 1) := by decide +kernel
theorem dL_law_838 : decode cL_law 838 = .ok (.iload_n 3, 1) := by decide +kernel
theorem dL_law_839 : decode cL_law 839 = .ok (.iconst 3, 1) := by decide +kernel
theorem dL_law_840 : decode cL_law 840 = .ok (.iadd, 1) := by decide +kernel
theorem dL_law_841 : decode cL_law 841 = .ok (.iaload, 1) := by decide +kernel
theorem dL_law_842 : decode cL_law 842 = .ok (.invokevirtual 92, 3) := by decide +kernel
theorem dL_law_845 : decode cL_law 845 = .ok (.if_icmp .eq 127, 3) := by decide +kernel
theorem dL_law_848 : decode cL_law 848 = .ok (.iconst 0, 1) := by decide +kernel
theorem dL_law_849 : decode cL_law 849 = .ok (.ireturn, 1) := by decide +kernel
theorem dL_law_850 : decode cL_law 850 = .ok (.aload_n 1, 1) := by decide +kernel
theorem dL_law_851 : decode cL_law 851 = .ok (.aload_n 0, 1) := by decide +kernel
theorem dL_law_852 : decode cL_law 852 = .ok (.iload_n 3, 1) := by decide +kernel
theorem dL_law_853 : decode cL_law 853 = .ok (.iconst 1, 1) := by decide +kernel
theorem dL_law_854 : decode cL_law 854 = .ok (.iadd, 1) := by decide +kernel
theorem dL_law_855 : decode cL_law 855 = .ok (.iaload, 1) := by decide +kernel
theorem dL_law_856 : decode cL_law 856 = .ok (.aload_n 0, 1) := by decide +kernel
theorem dL_law_857 : decode cL_law 857 = .ok (.iload_n 3, 1) := by decide +kernel
theorem dL_law_858 : decode cL_law 858 = .ok (.iconst 2, 1) := by decide +kernel
theorem dL_law_859 : decode cL_law 859 = .ok (.iadd, 1) := by decide +kernel
theorem dL_law_860 : decode cL_law 860 = .ok (.iaload, 1) := by decide +kernel
theorem dL_law_861 : decode cL_law 861 = .ok (.invokevirtual 93, 3) := by decide +kernel
theorem dL_law_864 : decode cL_law 864 = .ok (.aload_n 2, 1) := by decide +kernel
theorem dL_law_865 : decode cL_law 865 = .ok (.aload_n 0, 1) := by decide +kernel
theorem dL_law_866 : decode cL_law 866 = .ok (.iload_n 3, 1) := by decide +kernel
theorem dL_law_867 : decode cL_law 867 = .ok (.iconst 1, 1) := by decide +kernel
theorem dL_law_868 : decode cL_law 868 = .ok (.iadd, 1) := by decide +kernel
theorem dL_law_869 : decode cL_law 869 = .ok (.iaload, 1) := by decide +kernel
theorem dL_law_870 : decode cL_law 870 = .ok (.aload_n 0, 1) := by decide +kernel
theorem dL_law_871 : decode cL_law 871 = .ok (.iload_n 3, 1) := by decide +kernel
theorem dL_law_872 : decode cL_law 872 = .ok (.iconst 2, 1) := by decide +kernel
theorem dL_law_873 : decode cL_law 873 = .ok (.iadd, 1) := by decide +kernel
theorem dL_law_874 : decode cL_law 874 = .ok (.iaload, 1) := by decide +kernel
theorem dL_law_875 : decode cL_law 875 = .ok (.invokevirtual 96, 3) := by decide +kernel
theorem dL_law_878 : decode cL_law 878 = .ok (.if_icmp .eq 94, 3) := by decide +kernel
theorem dL_law_881 : decode cL_law 881 = .ok (.iconst 0, 1) := by decide +kernel
theorem dL_law_882 : decode cL_law 882 = .ok (.ireturn, 1) := by decide +kernel
theorem dL_law_883 : decode cL_law 883 = .ok (.aload_n 1, 1) := by decide +kernel
theorem dL_law_884 : decode cL_law 884 = .ok (.aload_n 0, 1) := by decide +kernel
theorem dL_law_885 : decode cL_law 885 = .ok (.iload_n 3, 1) := by decide +kernel
theorem dL_law_886 : decode cL_law 886 = .ok (.iconst 1, 1) := by decide +kernel
theorem dL_law_887 : decode cL_law 887 = .ok (.iadd, 1) := by decide +kernel
theorem dL_law_888 : decode cL_law 888 = .ok (.iaload, 1) := by decide +kernel
theorem dL_law_889 : decode cL_law 889 = .ok (.aload_n 0, 1) := by decide +kernel
theorem dL_law_890 : decode cL_law 890 = .ok (.iload_n 3, 1) := by decide +kernel
theorem dL_law_891 : decode cL_law 891 = .ok (.iconst 2, 1) := by decide +kernel
theorem dL_law_892 : decode cL_law 892 = .ok (.iadd, 1) := by decide +kernel
theorem dL_law_893 : decode cL_law 893 = .ok (.iaload, 1) := by decide +kernel
theorem dL_law_894 : decode cL_law 894 = .ok (.invokevirtual 97, 3) := by decide +kernel
theorem dL_law_897 : decode cL_law 897 = .ok (.aload_n 2, 1) := by decide +kernel
theorem dL_law_898 : decode cL_law 898 = .ok (.aload_n 0, 1) := by decide +kernel
theorem dL_law_899 : decode cL_law 899 = .ok (.iload_n 3, 1) := by decide +kernel
theorem dL_law_900 : decode cL_law 900 = .ok (.iconst 1, 1) := by decide +kernel
theorem dL_law_901 : decode cL_law 901 = .ok (.iadd, 1) := by decide +kernel
theorem dL_law_902 : decode cL_law 902 = .ok (.iaload, 1) := by decide +kernel
theorem dL_law_903 : decode cL_law 903 = .ok (.aload_n 0, 1) := by decide +kernel
theorem dL_law_904 : decode cL_law 904 = .ok (.iload_n 3, 1) := by decide +kernel
theorem dL_law_905 : decode cL_law 905 = .ok (.iconst 2, 1) := by decide +kernel
theorem dL_law_906 : decode cL_law 906 = .ok (.iadd, 1) := by decide +kernel
theorem dL_law_907 : decode cL_law 907 = .ok (.iaload, 1) := by decide +kernel
theorem dL_law_908 : decode cL_law 908 = .ok (.invokevirtual 100, 3) := by decide +kernel
theorem dL_law_911 : decode cL_law 911 = .ok (.if_icmp .eq 61, 3) := by decide +kernel
theorem dL_law_914 : decode cL_law 914 = .ok (.iconst 0, 1) := by decide +kernel
theorem dL_law_915 : decode cL_law 915 = .ok (.ireturn, 1) := by decide +kernel
theorem dL_law_916 : decode cL_law 916 = .ok (.aload_n 1, 1) := by decide +kernel
theorem dL_law_917 : decode cL_law 917 = .ok (.aload_n 0, 1) := by decide +kernel
theorem dL_law_918 : decode cL_law 918 = .ok (.iload_n 3, 1) := by decide +kernel
theorem dL_law_919 : decode cL_law 919 = .ok (.iconst 1, 1) := by decide +kernel
theorem dL_law_920 : decode cL_law 920 = .ok (.iadd, 1) := by decide +kernel
theorem dL_law_921 : decode cL_law 921 = .ok (.iaload, 1) := by decide +kernel
theorem dL_law_922 : decode cL_law 922 = .ok (.aload_n 0, 1) := by decide +kernel
theorem dL_law_923 : decode cL_law 923 = .ok (.iload_n 3, 1) := by decide +kernel
theorem dL_law_924 : decode cL_law 924 = .ok (.iconst 2, 1) := by decide +kernel
theorem dL_law_925 : decode cL_law 925 = .ok (.iadd, 1) := by decide +kernel
theorem dL_law_926 : decode cL_law 926 = .ok (.iaload, 1) := by decide +kernel
theorem dL_law_927 : decode cL_law 927 = .ok (.invokevirtual 101, 3) := by decide +kernel
theorem dL_law_930 : decode cL_law 930 = .ok (.aload_n 2, 1) := by decide +kernel
theorem dL_law_931 : decode cL_law 931 = .ok (.aload_n 0, 1) := by decide +kernel
theorem dL_law_932 : decode cL_law 932 = .ok (.iload_n 3, 1) := by decide +kernel
theorem dL_law_933 : decode cL_law 933 = .ok (.iconst 1, 1) := by decide +kernel
theorem dL_law_934 : decode cL_law 934 = .ok (.iadd, 1) := by decide +kernel
theorem dL_law_935 : decode cL_law 935 = .ok (.iaload, 1) := by decide +kernel
theorem dL_law_936 : decode cL_law 936 = .ok (.aload_n 0, 1) := by decide +kernel
theorem dL_law_937 : decode cL_law 937 = .ok (.iload_n 3, 1) := by decide +kernel
theorem dL_law_938 : decode cL_law 938 = .ok (.iconst 2, 1) := by decide +kernel
theorem dL_law_939 : decode cL_law 939 = .ok (.iadd, 1) := by decide +kernel
theorem dL_law_940 : decode cL_law 940 = .ok (.iaload, 1) := by decide +kernel
theorem dL_law_941 : decode cL_law 941 = .ok (.invokevirtual 104, 3) := by decide +kernel
theorem dL_law_944 : decode cL_law 944 = .ok (.if_icmp .eq 28, 3) := by decide +kernel
theorem dL_law_947 : decode cL_law 947 = .ok (.iconst 0, 1) := by decide +kernel
theorem dL_law_948 : decode cL_law 948 = .ok (.ireturn, 1) := by decide +kernel
theorem dL_law_949 : decode cL_law 949 = .ok (.aload_n 1, 1) := by decide +kernel
theorem dL_law_950 : decode cL_law 950 = .ok (.aload_n 0, 1) := by decide +kernel
theorem dL_law_951 : decode cL_law 951 = .ok (.iload_n 3, 1) := by decide +kernel
theorem dL_law_952 : decode cL_law 952 = .ok (.iconst 1, 1) := by decide +kernel
theorem dL_law_953 : decode cL_law 953 = .ok (.iadd, 1) := by decide +kernel
theorem dL_law_954 : decode cL_law 954 = .ok (.iaload, 1) := by decide +kernel
theorem dL_law_955 : decode cL_law 955 = .ok (.invokevirtual 105, 3) := by decide +kernel
theorem dL_law_958 : decode cL_law 958 = .ok (.aload_n 2, 1) := by decide +kernel
theorem dL_law_959 : decode cL_law 959 = .ok (.aload_n 0, 1) := by decide +kernel
theorem dL_law_960 : decode cL_law 960 = .ok (.iload_n 3, 1) := by decide +kernel
theorem dL_law_961 : decode cL_law 961 = .ok (.iconst 1, 1) := by decide +kernel
theorem dL_law_962 : decode cL_law 962 = .ok (.iadd, 1) := by decide +kernel
theorem dL_law_963 : decode cL_law 963 = .ok (.iaload, 1) := by decide +kernel
theorem dL_law_964 : decode cL_law 964 = .ok (.invokevirtual 109, 3) := by decide +kernel
theorem dL_law_967 : decode cL_law 967 = .ok (.if_icmp .eq 5, 3) := by decide +kernel
theorem dL_law_970 : decode cL_law 970 = .ok (.iconst 0, 1) := by decide +kernel
theorem dL_law_971 : decode cL_law 971 = .ok (.ireturn, 1) := by decide +kernel
theorem dL_law_972 : decode cL_law 972 = .ok (.iinc 3 6, 3) := by decide +kernel
theorem dL_law_975 : decode cL_law 975 = .ok (.goto (-957), 3) := by decide +kernel
theorem dL_law_978 : decode cL_law 978 = .ok (.iconst 1, 1) := by decide +kernel
theorem dL_law_979 : decode cL_law 979 = .ok (.ireturn, 1) := by decide +kernel
end
section
theorem zz_true : True := trivial
end
