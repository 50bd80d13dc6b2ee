set_option maxHeartbeats 4000000 in
set_option maxRecDepth 100000 in
theorem kX0_size (l : Launch) (D : va_G) (cI cZ : ClassId) (hu hH aH nh : Nat) (G : Nat → Nat → Int32) (hnh : nh ≤ 5) : Met l yX0_size wsX0_size ({ frames := 1, cells := 0, slots := 0, locals := 20 } : Room) (RdP D [(cI, .int), (cZ, .boolean)] [.ref hu] [(hu, .inr (0, [.ref hH])), (hH, .inr (3, [.int (nI 5), .int (nI 6), .ref aH, .int (nI nh)])), (aH, .inl (cI, 5 * 6, .inl (fl 6 G)))]) (QcRead (nI nh)) 0 0 (fun _ => False) := by
  refine rd_of (cc := cX0_size) (maxL := 1) (ret := (some .int)) (by decide) rfl (Nat.le_of_ble_eq_true rfl) ?_
  intro pp ee ss mm bw me cd ls hx hb hr hts hown hlocks hml hP hK hl
  have hl : lv_has ls 1 [(0, .ref hu)] := hl
  have hf16 := hts (.fieldLink RX0 16 "OtherNames$Houses" "rows" "LOtherNames$Rows;") (by decide +kernel)
  have hin0 := (show ∀ w ∈ wsX00, w ∈ wsX0_size by decide +kernel)
  refine lv_aload_n hx hb dX0_size_0 rfl (lv_at hl 0 rfl) ?_
  refine va_get (D := D) (ci := 0) (v := .ref hH) (C := RX0) (T := TX0) (N := 1) hx hb hts hin0 hown hK hP 0 rfl rfl 0 (by decide) hf16 (fun _ h9 => h9) rfl dX0_size_1 ?_
  refine rcV (As := []) (rest := []) (ci := 3) ⟨hx, hb, hml, hown, hts⟩ (kX3_size l D cI cZ hH aH 5 6 nh G (by first | assumption | omega)) (cwV 0 hts gX0_size_X3_size rfl rfl rfl (by decide +kernel) ⟨Nat.le_of_ble_eq_true rfl, Nat.le_of_ble_eq_true rfl⟩) hK hP [1, 2] rfl rfl rfl rfl rfl hl.1 rfl (Nat.le_of_ble_eq_true rfl) ⟨Nat.zero_le _, Nat.zero_le _⟩ dX0_size_4 ?_
  exact rd_iret hx hb hr hlocks dX0_size_7 (by rfl)
set_option maxHeartbeats 4000000 in
set_option maxRecDepth 100000 in
theorem kX0_isThere (l : Launch) (D : va_G) (cI cZ : ClassId) (hu hH aH nh : Nat) (G : Nat → Nat → Int32) (h : Int32) (hnh : nh ≤ 5) : Met l yX0_isThere wsX0_isThere ({ frames := 1, cells := 0, slots := 0, locals := 21 } : Room) (RdP D [(cI, .int), (cZ, .boolean)] [.ref hu, .int h] [(hu, .inr (0, [.ref hH])), (hH, .inr (3, [.int (nI 5), .int (nI 6), .ref aH, .int (nI nh)])), (aH, .inl (cI, 5 * 6, .inl (fl 6 G)))]) (QcRead (bI (inR nh h))) 0 0 (fun _ => False) := by
  refine rd_of (cc := cX0_isThere) (maxL := 2) (ret := (some .boolean)) (by decide) rfl (Nat.le_of_ble_eq_true rfl) ?_
  intro pp ee ss mm bw me cd ls hx hb hr hts hown hlocks hml hP hK hl
  have hl : lv_has ls 2 [(0, .ref hu), (1, .int h)] := hl
  have hf16 := hts (.fieldLink RX0 16 "OtherNames$Houses" "rows" "LOtherNames$Rows;") (by decide +kernel)
  have hin0 := (show ∀ w ∈ wsX00, w ∈ wsX0_isThere by decide +kernel)
  refine lv_aload_n hx hb dX0_isThere_0 rfl (lv_at hl 0 rfl) ?_
  refine va_get (D := D) (ci := 0) (v := .ref hH) (C := RX0) (T := TX0) (N := 1) hx hb hts hin0 hown hK hP 0 rfl rfl 0 (by decide) hf16 (fun _ h9 => h9) rfl dX0_isThere_1 ?_
  refine lv_iload_n hx hb dX0_isThere_4 rfl (lv_at hl 1 rfl) ?_
  refine rcV (As := [.int h]) (rest := []) (ci := 3) ⟨hx, hb, hml, hown, hts⟩ (kX3_isThere l D cI cZ hH aH 5 6 nh G h (by first | assumption | omega)) (cwV 1 hts gX0_isThere_X3_isThere rfl rfl rfl (by decide +kernel) ⟨Nat.le_of_ble_eq_true rfl, Nat.le_of_ble_eq_true rfl⟩) hK hP [1, 2] rfl rfl rfl rfl rfl hl.1 rfl (Nat.le_of_ble_eq_true rfl) ⟨Nat.zero_le _, Nat.zero_le _⟩ dX0_isThere_5 ?_
  exact rd_zret hx hb hr hlocks dX0_isThere_8 (by rfl)
set_option maxHeartbeats 4000000 in
set_option maxRecDepth 100000 in
theorem kX0_isSpanned (l : Launch) (D : va_G) (cI cZ : ClassId) (hu hH aH nh : Nat) (G : Nat → Nat → Int32) (h : Int32) (hnh : nh ≤ 5) : Met l yX0_isSpanned wsX0_isSpanned ({ frames := 2, cells := 0, slots := 0, locals := 44 } : Room) (RdP D [(cI, .int), (cZ, .boolean)] [.ref hu, .int h] [(hu, .inr (0, [.ref hH])), (hH, .inr (3, [.int (nI 5), .int (nI 6), .ref aH, .int (nI nh)])), (aH, .inl (cI, 5 * 6, .inl (fl 6 G)))]) (QcRead (bI (decide (tat nh 6 G h 0 = 1)))) 0 0 (fun _ => False) := by
  refine rd_of (cc := cX0_isSpanned) (maxL := 2) (ret := (some .boolean)) (by decide) rfl (Nat.le_of_ble_eq_true rfl) ?_
  intro pp ee ss mm bw me cd ls hx hb hr hts hown hlocks hml hP hK hl
  have hl : lv_has ls 2 [(0, .ref hu), (1, .int h)] := hl
  have hf16 := hts (.fieldLink RX0 16 "OtherNames$Houses" "rows" "LOtherNames$Rows;") (by decide +kernel)
  have hin0 := (show ∀ w ∈ wsX00, w ∈ wsX0_isSpanned by decide +kernel)
  refine lv_aload_n hx hb dX0_isSpanned_0 rfl (lv_at hl 0 rfl) ?_
  refine va_get (D := D) (ci := 0) (v := .ref hH) (C := RX0) (T := TX0) (N := 1) hx hb hts hin0 hown hK hP 0 rfl rfl 0 (by decide) hf16 (fun _ h9 => h9) rfl dX0_isSpanned_1 ?_
  refine lv_iload_n hx hb dX0_isSpanned_4 rfl (lv_at hl 1 rfl) ?_
  refine lv_iconst (v := 0) hx hb dX0_isSpanned_5 (by decide) ?_
  refine rcV (As := [.int h, .int 0]) (rest := []) (ci := 3) ⟨hx, hb, hml, hown, hts⟩ (kX3_at l D cI cZ hH aH 5 6 nh G h 0 (by first | assumption | omega)) (cwV 2 hts gX0_isSpanned_X3_at rfl rfl rfl (by decide +kernel) ⟨Nat.le_of_ble_eq_true rfl, Nat.le_of_ble_eq_true rfl⟩) hK hP [1, 2] rfl rfl rfl rfl rfl hl.1 rfl (Nat.le_of_ble_eq_true rfl) ⟨Nat.zero_le _, Nat.zero_le _⟩ dX0_isSpanned_6 ?_
  refine lv_iconst (v := 1) hx hb dX0_isSpanned_9 (by decide) ?_
  refine lv_icmp_ne (tgt := 17) hx hb dX0_isSpanned_10 (by decide) (fun c_10 => ?_) (fun c_10 => ?_)
  · skip
    refine lv_iconst (v := 0) hx hb dX0_isSpanned_17 (by decide) ?_
    exact rd_zret hx hb hr hlocks dX0_isSpanned_18 (by simp [bI, c_10])
  · skip
    refine lv_iconst (v := 1) hx hb dX0_isSpanned_13 (by decide) ?_
    refine lv_goto (tgt := 18) hx hb dX0_isSpanned_14 (by decide) ?_
    exact rd_zret hx hb hr hlocks dX0_isSpanned_18 (by simp [bI, c_10])
set_option maxHeartbeats 4000000 in
set_option maxRecDepth 100000 in
theorem kX0_seedOf (l : Launch) (D : va_G) (cI cZ : ClassId) (hu hH aH nh : Nat) (G : Nat → Nat → Int32) (h : Int32) (hnh : nh ≤ 5) : Met l yX0_seedOf wsX0_seedOf ({ frames := 2, cells := 0, slots := 0, locals := 44 } : Room) (RdP D [(cI, .int), (cZ, .boolean)] [.ref hu, .int h] [(hu, .inr (0, [.ref hH])), (hH, .inr (3, [.int (nI 5), .int (nI 6), .ref aH, .int (nI nh)])), (aH, .inl (cI, 5 * 6, .inl (fl 6 G)))]) (QcRead (tat nh 6 G h 2)) 0 0 (fun _ => False) := by
  refine rd_of (cc := cX0_seedOf) (maxL := 2) (ret := (some .int)) (by decide) rfl (Nat.le_of_ble_eq_true rfl) ?_
  intro pp ee ss mm bw me cd ls hx hb hr hts hown hlocks hml hP hK hl
  have hl : lv_has ls 2 [(0, .ref hu), (1, .int h)] := hl
  have hf16 := hts (.fieldLink RX0 16 "OtherNames$Houses" "rows" "LOtherNames$Rows;") (by decide +kernel)
  have hin0 := (show ∀ w ∈ wsX00, w ∈ wsX0_seedOf by decide +kernel)
  refine lv_aload_n hx hb dX0_seedOf_0 rfl (lv_at hl 0 rfl) ?_
  refine va_get (D := D) (ci := 0) (v := .ref hH) (C := RX0) (T := TX0) (N := 1) hx hb hts hin0 hown hK hP 0 rfl rfl 0 (by decide) hf16 (fun _ h9 => h9) rfl dX0_seedOf_1 ?_
  refine lv_iload_n hx hb dX0_seedOf_4 rfl (lv_at hl 1 rfl) ?_
  refine lv_iconst (v := 2) hx hb dX0_seedOf_5 (by decide) ?_
  refine rcV (As := [.int h, .int 2]) (rest := []) (ci := 3) ⟨hx, hb, hml, hown, hts⟩ (kX3_at l D cI cZ hH aH 5 6 nh G h 2 (by first | assumption | omega)) (cwV 2 hts gX0_seedOf_X3_at rfl rfl rfl (by decide +kernel) ⟨Nat.le_of_ble_eq_true rfl, Nat.le_of_ble_eq_true rfl⟩) hK hP [1, 2] rfl rfl rfl rfl rfl hl.1 rfl (Nat.le_of_ble_eq_true rfl) ⟨Nat.zero_le _, Nat.zero_le _⟩ dX0_seedOf_6 ?_
  exact rd_iret hx hb hr hlocks dX0_seedOf_9 (by rfl)
set_option maxHeartbeats 4000000 in
set_option maxRecDepth 100000 in
theorem kX0_leastOf (l : Launch) (D : va_G) (cI cZ : ClassId) (hu hH aH nh : Nat) (G : Nat → Nat → Int32) (h : Int32) (hnh : nh ≤ 5) : Met l yX0_leastOf wsX0_leastOf ({ frames := 2, cells := 0, slots := 0, locals := 44 } : Room) (RdP D [(cI, .int), (cZ, .boolean)] [.ref hu, .int h] [(hu, .inr (0, [.ref hH])), (hH, .inr (3, [.int (nI 5), .int (nI 6), .ref aH, .int (nI nh)])), (aH, .inl (cI, 5 * 6, .inl (fl 6 G)))]) (QcRead (tat nh 6 G h 4)) 0 0 (fun _ => False) := by
  refine rd_of (cc := cX0_leastOf) (maxL := 2) (ret := (some .int)) (by decide) rfl (Nat.le_of_ble_eq_true rfl) ?_
  intro pp ee ss mm bw me cd ls hx hb hr hts hown hlocks hml hP hK hl
  have hl : lv_has ls 2 [(0, .ref hu), (1, .int h)] := hl
  have hf16 := hts (.fieldLink RX0 16 "OtherNames$Houses" "rows" "LOtherNames$Rows;") (by decide +kernel)
  have hin0 := (show ∀ w ∈ wsX00, w ∈ wsX0_leastOf by decide +kernel)
  refine lv_aload_n hx hb dX0_leastOf_0 rfl (lv_at hl 0 rfl) ?_
  refine va_get (D := D) (ci := 0) (v := .ref hH) (C := RX0) (T := TX0) (N := 1) hx hb hts hin0 hown hK hP 0 rfl rfl 0 (by decide) hf16 (fun _ h9 => h9) rfl dX0_leastOf_1 ?_
  refine lv_iload_n hx hb dX0_leastOf_4 rfl (lv_at hl 1 rfl) ?_
  refine lv_iconst (v := 4) hx hb dX0_leastOf_5 (by decide) ?_
  refine rcV (As := [.int h, .int 4]) (rest := []) (ci := 3) ⟨hx, hb, hml, hown, hts⟩ (kX3_at l D cI cZ hH aH 5 6 nh G h 4 (by first | assumption | omega)) (cwV 2 hts gX0_leastOf_X3_at rfl rfl rfl (by decide +kernel) ⟨Nat.le_of_ble_eq_true rfl, Nat.le_of_ble_eq_true rfl⟩) hK hP [1, 2] rfl rfl rfl rfl rfl hl.1 rfl (Nat.le_of_ble_eq_true rfl) ⟨Nat.zero_le _, Nat.zero_le _⟩ dX0_leastOf_6 ?_
  exact rd_iret hx hb hr hlocks dX0_leastOf_9 (by rfl)
set_option maxHeartbeats 4000000 in
set_option maxRecDepth 100000 in
theorem kX0_reasonCounts (l : Launch) (D : va_G) (cI cZ : ClassId) (hu hH aH nh : Nat) (G : Nat → Nat → Int32) (h : Int32) (r : Int32) (hnh : nh ≤ 5) : Met l yX0_reasonCounts wsX0_reasonCounts ({ frames := 2, cells := 0, slots := 0, locals := 44 } : Room) (RdP D [(cI, .int), (cZ, .boolean)] [.ref hu, .int h, .int r] [(hu, .inr (0, [.ref hH])), (hH, .inr (3, [.int (nI 5), .int (nI 6), .ref aH, .int (nI nh)])), (aH, .inl (cI, 5 * 6, .inl (fl 6 G)))]) (QcRead (bI (isAm (tat nh 6 G h 3) r))) 0 0 (fun _ => False) := by
  refine rd_of (cc := cX0_reasonCounts) (maxL := 3) (ret := (some .boolean)) (by decide) rfl (Nat.le_of_ble_eq_true rfl) ?_
  intro pp ee ss mm bw me cd ls hx hb hr hts hown hlocks hml hP hK hl
  have hl : lv_has ls 3 [(0, .ref hu), (1, .int h), (2, .int r)] := hl
  have hf16 := hts (.fieldLink RX0 16 "OtherNames$Houses" "rows" "LOtherNames$Rows;") (by decide +kernel)
  have hin0 := (show ∀ w ∈ wsX00, w ∈ wsX0_reasonCounts by decide +kernel)
  refine lv_aload_n hx hb dX0_reasonCounts_0 rfl (lv_at hl 0 rfl) ?_
  refine va_get (D := D) (ci := 0) (v := .ref hH) (C := RX0) (T := TX0) (N := 1) hx hb hts hin0 hown hK hP 0 rfl rfl 0 (by decide) hf16 (fun _ h9 => h9) rfl dX0_reasonCounts_1 ?_
  refine lv_iload_n hx hb dX0_reasonCounts_4 rfl (lv_at hl 1 rfl) ?_
  refine lv_iconst (v := 3) hx hb dX0_reasonCounts_5 (by decide) ?_
  refine rcV (As := [.int h, .int 3]) (rest := []) (ci := 3) ⟨hx, hb, hml, hown, hts⟩ (kX3_at l D cI cZ hH aH 5 6 nh G h 3 (by first | assumption | omega)) (cwV 2 hts gX0_reasonCounts_X3_at rfl rfl rfl (by decide +kernel) ⟨Nat.le_of_ble_eq_true rfl, Nat.le_of_ble_eq_true rfl⟩) hK hP [1, 2] rfl rfl rfl rfl rfl hl.1 rfl (Nat.le_of_ble_eq_true rfl) ⟨Nat.zero_le _, Nat.zero_le _⟩ dX0_reasonCounts_6 ?_
  refine lv_iload_n hx hb dX0_reasonCounts_9 rfl (lv_at hl 2 rfl) ?_
  refine lv_ishr hx hb dX0_reasonCounts_10 ?_
  refine lv_iconst (v := 1) hx hb dX0_reasonCounts_11 (by decide) ?_
  refine lv_iand hx hb dX0_reasonCounts_12 ?_
  refine lv_iconst (v := 1) hx hb dX0_reasonCounts_13 (by decide) ?_
  refine lv_icmp_ne (tgt := 21) hx hb dX0_reasonCounts_14 (by decide) (fun c_14 => ?_) (fun c_14 => ?_)
  · skip
    refine lv_iconst (v := 0) hx hb dX0_reasonCounts_21 (by decide) ?_
    exact rd_zret hx hb hr hlocks dX0_reasonCounts_22 (by simp [bI, isAm, c_14])
  · skip
    refine lv_iconst (v := 1) hx hb dX0_reasonCounts_17 (by decide) ?_
    refine lv_goto (tgt := 22) hx hb dX0_reasonCounts_18 (by decide) ?_
    exact rd_zret hx hb hr hlocks dX0_reasonCounts_22 (by simp [bI, isAm, c_14])
set_option maxHeartbeats 4000000 in
set_option maxRecDepth 100000 in
theorem kX0_isLost (l : Launch) (D : va_G) (cI cZ : ClassId) (hu hH aH nh : Nat) (G : Nat → Nat → Int32) (h : Int32) (hnh : nh ≤ 5) : Met l yX0_isLost wsX0_isLost ({ frames := 2, cells := 0, slots := 0, locals := 44 } : Room) (RdP D [(cI, .int), (cZ, .boolean)] [.ref hu, .int h] [(hu, .inr (0, [.ref hH])), (hH, .inr (3, [.int (nI 5), .int (nI 6), .ref aH, .int (nI nh)])), (aH, .inl (cI, 5 * 6, .inl (fl 6 G)))]) (QcRead (bI (decide (tat nh 6 G h 5 = 1)))) 0 0 (fun _ => False) := by
  refine rd_of (cc := cX0_isLost) (maxL := 2) (ret := (some .boolean)) (by decide) rfl (Nat.le_of_ble_eq_true rfl) ?_
  intro pp ee ss mm bw me cd ls hx hb hr hts hown hlocks hml hP hK hl
  have hl : lv_has ls 2 [(0, .ref hu), (1, .int h)] := hl
  have hf16 := hts (.fieldLink RX0 16 "OtherNames$Houses" "rows" "LOtherNames$Rows;") (by decide +kernel)
  have hin0 := (show ∀ w ∈ wsX00, w ∈ wsX0_isLost by decide +kernel)
  refine lv_aload_n hx hb dX0_isLost_0 rfl (lv_at hl 0 rfl) ?_
  refine va_get (D := D) (ci := 0) (v := .ref hH) (C := RX0) (T := TX0) (N := 1) hx hb hts hin0 hown hK hP 0 rfl rfl 0 (by decide) hf16 (fun _ h9 => h9) rfl dX0_isLost_1 ?_
  refine lv_iload_n hx hb dX0_isLost_4 rfl (lv_at hl 1 rfl) ?_
  refine lv_iconst (v := 5) hx hb dX0_isLost_5 (by decide) ?_
  refine rcV (As := [.int h, .int 5]) (rest := []) (ci := 3) ⟨hx, hb, hml, hown, hts⟩ (kX3_at l D cI cZ hH aH 5 6 nh G h 5 (by first | assumption | omega)) (cwV 2 hts gX0_isLost_X3_at rfl rfl rfl (by decide +kernel) ⟨Nat.le_of_ble_eq_true rfl, Nat.le_of_ble_eq_true rfl⟩) hK hP [1, 2] rfl rfl rfl rfl rfl hl.1 rfl (Nat.le_of_ble_eq_true rfl) ⟨Nat.zero_le _, Nat.zero_le _⟩ dX0_isLost_6 ?_
  refine lv_iconst (v := 1) hx hb dX0_isLost_9 (by decide) ?_
  refine lv_icmp_ne (tgt := 17) hx hb dX0_isLost_10 (by decide) (fun c_10 => ?_) (fun c_10 => ?_)
  · skip
    refine lv_iconst (v := 0) hx hb dX0_isLost_17 (by decide) ?_
    exact rd_zret hx hb hr hlocks dX0_isLost_18 (by simp [bI, c_10])
  · skip
    refine lv_iconst (v := 1) hx hb dX0_isLost_13 (by decide) ?_
    refine lv_goto (tgt := 18) hx hb dX0_isLost_14 (by decide) ?_
    exact rd_zret hx hb hr hlocks dX0_isLost_18 (by simp [bI, c_10])
set_option maxHeartbeats 4000000 in
set_option maxRecDepth 100000 in
theorem kX0_nameNumber (l : Launch) (D : va_G) (cI cZ : ClassId) (hu hH aH nh : Nat) (G : Nat → Nat → Int32) (h : Int32) (k : Int32) (hnh : nh ≤ 5) : Met l yX0_nameNumber wsX0_nameNumber ({ frames := 3, cells := 0, slots := 0, locals := 65 } : Room) (RdP D [(cI, .int), (cZ, .boolean)] [.ref hu, .int h, .int k] [(hu, .inr (0, [.ref hH])), (hH, .inr (3, [.int (nI 5), .int (nI 6), .ref aH, .int (nI nh)])), (aH, .inl (cI, 5 * 6, .inl (fl 6 G)))]) (QcRead (remI (tat nh 6 G h 2 * k) 9973)) 0 0 (fun _ => False) := by
  refine rd_of (cc := cX0_nameNumber) (maxL := 3) (ret := (some .int)) (by decide) rfl (Nat.le_of_ble_eq_true rfl) ?_
  intro pp ee ss mm bw me cd ls hx hb hr hts hown hlocks hml hP hK hl
  have hl : lv_has ls 3 [(0, .ref hu), (1, .int h), (2, .int k)] := hl
  refine lv_aload_n hx hb dX0_nameNumber_0 rfl (lv_at hl 0 rfl) ?_
  refine lv_iload_n hx hb dX0_nameNumber_1 rfl (lv_at hl 1 rfl) ?_
  refine rcV (As := [.int h]) (rest := []) (ci := 0) ⟨hx, hb, hml, hown, hts⟩ (kX0_seedOf l D cI cZ hu hH aH nh G h (by first | assumption | omega)) (cwV 1 hts gX0_nameNumber_X0_seedOf rfl rfl rfl (by decide +kernel) ⟨Nat.le_of_ble_eq_true rfl, Nat.le_of_ble_eq_true rfl⟩) hK hP [0, 1, 2] rfl rfl rfl rfl rfl hl.1 rfl (Nat.le_of_ble_eq_true rfl) ⟨Nat.zero_le _, Nat.zero_le _⟩ dX0_nameNumber_2 ?_
  refine lv_iload_n hx hb dX0_nameNumber_5 rfl (lv_at hl 2 rfl) ?_
  refine lv_imul hx hb dX0_nameNumber_6 ?_
  refine lv_sipush (v := 9973) hx hb dX0_nameNumber_7 (by decide) ?_
  refine lv_irem hx hb dX0_nameNumber_10 (by decide) ?_
  exact rd_iret hx hb hr hlocks dX0_nameNumber_11 (by rfl)
set_option maxHeartbeats 4000000 in
set_option maxRecDepth 100000 in
theorem kX0_spanNumber (l : Launch) (D : va_G) (cI cZ : ClassId) (hu hH aH nh : Nat) (G : Nat → Nat → Int32) (h : Int32) (day : Int32) (k : Int32) (hnh : nh ≤ 5) : Met l yX0_spanNumber wsX0_spanNumber ({ frames := 3, cells := 0, slots := 0, locals := 65 } : Room) (RdP D [(cI, .int), (cZ, .boolean)] [.ref hu, .int h, .int day, .int k] [(hu, .inr (0, [.ref hH])), (hH, .inr (3, [.int (nI 5), .int (nI 6), .ref aH, .int (nI nh)])), (aH, .inl (cI, 5 * 6, .inl (fl 6 G)))]) (QcRead (spN nh G h day k)) 0 0 (fun _ => False) := by
  refine rd_of (cc := cX0_spanNumber) (maxL := 5) (ret := (some .int)) (by decide) rfl (Nat.le_of_ble_eq_true rfl) ?_
  intro pp ee ss mm bw me cd ls hx hb hr hts hown hlocks hml hP hK hl
  have hl : lv_has ls 5 [(0, .ref hu), (1, .int h), (2, .int day), (3, .int k)] := hl
  have hf16 := hts (.fieldLink RX0 16 "OtherNames$Houses" "rows" "LOtherNames$Rows;") (by decide +kernel)
  have hin0 := (show ∀ w ∈ wsX00, w ∈ wsX0_spanNumber by decide +kernel)
  refine lv_aload_n hx hb dX0_spanNumber_0 rfl (lv_at hl 0 rfl) ?_
  refine va_get (D := D) (ci := 0) (v := .ref hH) (C := RX0) (T := TX0) (N := 1) hx hb hts hin0 hown hK hP 0 rfl rfl 0 (by decide) hf16 (fun _ h9 => h9) rfl dX0_spanNumber_1 ?_
  refine lv_iload_n hx hb dX0_spanNumber_4 rfl (lv_at hl 1 rfl) ?_
  refine lv_iconst (v := 0) hx hb dX0_spanNumber_5 (by decide) ?_
  refine rcV (As := [.int h, .int 0]) (rest := []) (ci := 3) ⟨hx, hb, hml, hown, hts⟩ (kX3_at l D cI cZ hH aH 5 6 nh G h 0 (by first | assumption | omega)) (cwV 2 hts gX0_spanNumber_X3_at rfl rfl rfl (by decide +kernel) ⟨Nat.le_of_ble_eq_true rfl, Nat.le_of_ble_eq_true rfl⟩) hK hP [1, 2] rfl rfl rfl rfl rfl hl.1 rfl (Nat.le_of_ble_eq_true rfl) ⟨Nat.zero_le _, Nat.zero_le _⟩ dX0_spanNumber_6 ?_
  refine lv_iconst (v := 2) hx hb dX0_spanNumber_9 (by decide) ?_
  refine lv_icmp_ne (tgt := 15) hx hb dX0_spanNumber_10 (by decide) (fun c_10 => ?_) (fun c_10 => ?_)
  · skip
    refine lv_aload_n hx hb dX0_spanNumber_15 rfl (lv_at hl 0 rfl) ?_
    refine va_get (D := D) (ci := 0) (v := .ref hH) (C := RX0) (T := TX0) (N := 1) hx hb hts hin0 hown hK hP 0 rfl rfl 0 (by decide) hf16 (fun _ h9 => h9) rfl dX0_spanNumber_16 ?_
    refine lv_iload_n hx hb dX0_spanNumber_19 rfl (lv_at hl 1 rfl) ?_
    refine lv_iconst (v := 1) hx hb dX0_spanNumber_20 (by decide) ?_
    refine rcV (As := [.int h, .int 1]) (rest := []) (ci := 3) ⟨hx, hb, hml, hown, hts⟩ (kX3_at l D cI cZ hH aH 5 6 nh G h 1 (by first | assumption | omega)) (cwV 2 hts gX0_spanNumber_X3_at rfl rfl rfl (by decide +kernel) ⟨Nat.le_of_ble_eq_true rfl, Nat.le_of_ble_eq_true rfl⟩) hK hP [1, 2] rfl rfl rfl rfl rfl hl.1 rfl (Nat.le_of_ble_eq_true rfl) ⟨Nat.zero_le _, Nat.zero_le _⟩ dX0_spanNumber_21 ?_
    refine lv_istore (lv' := [(4, .int (tat nh 6 G h 1)), (0, .ref hu), (1, .int h), (2, .int day), (3, .int k)]) hx hb dX0_spanNumber_24 hl (by decide) rfl (fun ls hl => ?_)
    refine lv_aload_n hx hb dX0_spanNumber_26 rfl (lv_at hl 1 rfl) ?_
    refine lv_iload_n hx hb dX0_spanNumber_27 rfl (lv_at hl 2 rfl) ?_
    refine rcV (As := [.int h]) (rest := []) (ci := 0) ⟨hx, hb, hml, hown, hts⟩ (kX0_isSpanned l D cI cZ hu hH aH nh G h (by first | assumption | omega)) (cwV 1 hts gX0_spanNumber_X0_isSpanned rfl rfl rfl (by decide +kernel) ⟨Nat.le_of_ble_eq_true rfl, Nat.le_of_ble_eq_true rfl⟩) hK hP [0, 1, 2] rfl rfl rfl rfl rfl hl.1 rfl (Nat.le_of_ble_eq_true rfl) ⟨Nat.zero_le _, Nat.zero_le _⟩ dX0_spanNumber_28 ?_
    refine lb_eq (tgt := 46) hx hb dX0_spanNumber_31 (by decide) (fun c_31 => ?_) (fun c_31 => ?_)
    · skip
      have c_31 := of_decide_eq_false c_31
      refine lv_iconst (v := 0) hx hb dX0_spanNumber_46 (by decide) ?_
      exact rd_iret hx hb hr hlocks dX0_spanNumber_47 (by simp [spN, c_10, c_31])
    · skip
      have c_31 := of_decide_eq_true c_31
      refine lv_iload hx hb dX0_spanNumber_34 (lv_at hl 0 rfl) ?_
      refine lv_if_le (tgt := 46) hx hb dX0_spanNumber_36 (by decide) (fun c_36 => ?_) (fun c_36 => ?_)
      · skip
        refine lv_iconst (v := 0) hx hb dX0_spanNumber_46 (by decide) ?_
        exact rd_iret hx hb hr hlocks dX0_spanNumber_47 (by simp [spN, c_10, c_31, c_36])
      · skip
        refine lv_iload_n hx hb dX0_spanNumber_39 rfl (lv_at hl 3 rfl) ?_
        refine lv_iload hx hb dX0_spanNumber_40 (lv_at hl 0 rfl) ?_
        refine lv_idiv hx hb dX0_spanNumber_42 (fun q => c_36 (by rw [q]; decide)) ?_
        refine lv_goto (tgt := 47) hx hb dX0_spanNumber_43 (by decide) ?_
        exact rd_iret hx hb hr hlocks dX0_spanNumber_47 (by simp [spN, c_10, c_31, c_36])
  · skip
    refine lv_iload_n hx hb dX0_spanNumber_13 rfl (lv_at hl 3 rfl) ?_
    exact rd_iret hx hb hr hlocks dX0_spanNumber_14 (by simp [spN, c_10])
set_option maxHeartbeats 4000000 in
set_option maxRecDepth 100000 in
theorem kX0_setLost (l : Launch) (D : va_G) (cI cZ : ClassId) (hu hH aH nh : Nat) (G : Nat → Nat → Int32) (h : Int32) (b : Int32) (hnh : nh ≤ 5) : Met l yX0_setLost wsX0_setLost ({ frames := 2, cells := 0, slots := 0, locals := 45 } : Room) (MuP D [(cI, .int), (cZ, .boolean)] [.ref hu, .int h, .int b] [(hu, .inr (0, [.ref hH])), (hH, .inr (3, [.int (nI 5), .int (nI 6), .ref aH, .int (nI nh)])), (aH, .inl (cI, 5 * 6, .inl (fl 6 G)))]) (QM D none [(hu, .inr (0, [.ref hH])), (hH, .inr (3, [.int (nI 5), .int (nI 6), .ref aH, .int (nI nh)])), (aH, .inl (cI, 5 * 6, .inl (fl 6 G)))] [(hu, .inr (0, [.ref hH])), (hH, .inr (3, [.int (nI 5), .int (nI 6), .ref aH, .int (nI nh)])), (aH, .inl (cI, 5 * 6, .inl (fl 6 (tput nh 6 G h 5 (if b = 0 then 0 else 1)))))]) 0 0 (adr [(hu, .inr (0, [.ref hH])), (hH, .inr (3, [.int (nI 5), .int (nI 6), .ref aH, .int (nI nh)])), (aH, .inl (cI, 5 * 6, .inl (fl 6 G)))]) := by
  refine mu_of (cc := cX0_setLost) (maxL := 3) (ret := none) (by decide) rfl (Nat.le_of_ble_eq_true rfl) ?_
  intro pp ee ss mm bw me cd ls hx hb hr hts hown hlocks hml hK hl H locs hP hD hS
  have hl : lv_has ls 3 [(0, .ref hu), (1, .int h), (2, .int b)] := hl
  have hf16 := hts (.fieldLink RX0 16 "OtherNames$Houses" "rows" "LOtherNames$Rows;") (by decide +kernel)
  have hin0 := (show ∀ w ∈ wsX00, w ∈ wsX0_setLost by decide +kernel)
  refine lv_aload_n hx hb dX0_setLost_0 rfl (lv_at hl 0 rfl) ?_
  refine va_get (D := D) (ci := 0) (v := .ref hH) (C := RX0) (T := TX0) (N := 1) hx hb hts hin0 hown hK hP 0 rfl rfl 0 (by decide) hf16 (fun _ h9 => h9) rfl dX0_setLost_1 ?_
  refine lv_iload_n hx hb dX0_setLost_4 rfl (lv_at hl 1 rfl) ?_
  refine lv_iconst (v := 5) hx hb dX0_setLost_5 (by decide) ?_
  refine lv_iload_n hx hb dX0_setLost_6 rfl (lv_at hl 2 rfl) ?_
  refine lv_if_eq (tgt := 14) hx hb dX0_setLost_7 (by decide) (fun c_7 => ?_) (fun c_7 => ?_)
  · skip
    refine lv_iconst (v := 0) hx hb dX0_setLost_14 (by decide) ?_
    refine mcV (As := [.int h, .int 5, .int 0]) (rest := []) (ci := 3) (wn := [(hu, .inr (0, [.ref hH])), (hH, .inr (3, [.int (nI 5), .int (nI 6), .ref aH, .int (nI nh)])), (aH, .inl (cI, 5 * 6, .inl (fl 6 (tput nh 6 G h 5 0))))]) ⟨hx, hb, hml, hown, hts⟩ (kX3_put l D cI cZ hH aH 5 6 nh G h 5 0 (by first | assumption | omega)) (cwV 3 hts gX0_setLost_X3_put rfl rfl rfl (by decide +kernel) ⟨Nat.le_of_ble_eq_true rfl, Nat.le_of_ble_eq_true rfl⟩) hK hP hD hS [1, 2] rfl rfl rfl rfl rfl rfl rfl rfl rfl hl.1 rfl (Nat.le_of_ble_eq_true rfl) ⟨Nat.zero_le _, Nat.zero_le _⟩ dX0_setLost_15 (fun H locs hP hD hS => ?_)
    refine W.eq (g2 := F0 mm 18 ls []) rfl ?_
    refine mu_vret hx hb hr hlocks hS dX0_setLost_18 ?_
    have q0 : (fl 6 (tput nh 6 G h 5 (if b = 0 then 0 else 1))) = (fl 6 (tput nh 6 G h 5 0)) := by simp [c_7]
    rw [q0]
    exact hP
  · skip
    refine lv_iconst (v := 1) hx hb dX0_setLost_10 (by decide) ?_
    refine lv_goto (tgt := 15) hx hb dX0_setLost_11 (by decide) ?_
    refine mcV (As := [.int h, .int 5, .int 1]) (rest := []) (ci := 3) (wn := [(hu, .inr (0, [.ref hH])), (hH, .inr (3, [.int (nI 5), .int (nI 6), .ref aH, .int (nI nh)])), (aH, .inl (cI, 5 * 6, .inl (fl 6 (tput nh 6 G h 5 1))))]) ⟨hx, hb, hml, hown, hts⟩ (kX3_put l D cI cZ hH aH 5 6 nh G h 5 1 (by first | assumption | omega)) (cwV 3 hts gX0_setLost_X3_put rfl rfl rfl (by decide +kernel) ⟨Nat.le_of_ble_eq_true rfl, Nat.le_of_ble_eq_true rfl⟩) hK hP hD hS [1, 2] rfl rfl rfl rfl rfl rfl rfl rfl rfl hl.1 rfl (Nat.le_of_ble_eq_true rfl) ⟨Nat.zero_le _, Nat.zero_le _⟩ dX0_setLost_15 (fun H locs hP hD hS => ?_)
    refine W.eq (g2 := F0 mm 18 ls []) rfl ?_
    refine mu_vret hx hb hr hlocks hS dX0_setLost_18 ?_
    have q0 : (fl 6 (tput nh 6 G h 5 (if b = 0 then 0 else 1))) = (fl 6 (tput nh 6 G h 5 1)) := by simp [c_7]
    rw [q0]
    exact hP
set_option maxHeartbeats 4000000 in
set_option maxRecDepth 100000 in
theorem kX0_add (l : Launch) (D : va_G) (cI cZ : ClassId) (hu hH aH nh : Nat) (G : Nat → Nat → Int32) (kd : Int32) (sn : Int32) (sd : Int32) (rs : Int32) (lt : Int32) (hnh : nh ≤ 5) : Met l yX0_add wsX0_add ({ frames := 2, cells := 0, slots := 0, locals := 45 } : Room) (MuP D [(cI, .int), (cZ, .boolean)] [.ref hu, .int kd, .int sn, .int sd, .int rs, .int lt] [(hu, .inr (0, [.ref hH])), (hH, .inr (3, [.int (nI 5), .int (nI 6), .ref aH, .int (nI nh)])), (aH, .inl (cI, 5 * 6, .inl (fl 6 G)))]) (QM D (some (.int (if okH kd sn sd rs lt = true then arow 5 nh else -1))) [(hu, .inr (0, [.ref hH])), (hH, .inr (3, [.int (nI 5), .int (nI 6), .ref aH, .int (nI nh)])), (aH, .inl (cI, 5 * 6, .inl (fl 6 G)))] [(hu, .inr (0, [.ref hH])), (hH, .inr (3, [.int (nI 5), .int (nI 6), .ref aH, .int (nI (if okH kd sn sd rs lt = true then adn 5 nh else nh))])), (aH, .inl (cI, 5 * 6, .inl (fl 6 (if okH kd sn sd rs lt = true then haddT nh G kd sn sd rs lt else G))))]) 0 0 (adr [(hu, .inr (0, [.ref hH])), (hH, .inr (3, [.int (nI 5), .int (nI 6), .ref aH, .int (nI nh)])), (aH, .inl (cI, 5 * 6, .inl (fl 6 G)))]) := by
  refine mu_of (cc := cX0_add) (maxL := 7) (ret := (some .int)) (by decide) rfl (Nat.le_of_ble_eq_true rfl) ?_
  intro pp ee ss mm bw me cd ls hx hb hr hts hown hlocks hml hK hl H locs hP hD hS
  have hl : lv_has ls 7 [(0, .ref hu), (1, .int kd), (2, .int sn), (3, .int sd), (4, .int rs), (5, .int lt)] := hl
  have hf16 := hts (.fieldLink RX0 16 "OtherNames$Houses" "rows" "LOtherNames$Rows;") (by decide +kernel)
  have hin0 := (show ∀ w ∈ wsX00, w ∈ wsX0_add by decide +kernel)
  refine lv_iload_n hx hb dX0_add_0 rfl (lv_at hl 1 rfl) ?_
  refine lv_if_lt (tgt := 33) hx hb dX0_add_1 (by decide) (fun c_1 => ?_) (fun c_1 => ?_)
  · skip
    refine lv_iconst (v := (-1)) hx hb dX0_add_33 (by decide) ?_
    refine mu_iret hx hb hr hlocks hS dX0_add_34 ?_ ?_
    · rw [if_neg (by simp [okH, inB, c_1])]
    have q0 : (nI (if okH kd sn sd rs lt = true then adn 5 nh else nh)) = (nI nh) := by rw [if_neg (by simp [okH, inB, c_1])]
    have q1 : (fl 6 (if okH kd sn sd rs lt = true then haddT nh G kd sn sd rs lt else G)) = (fl 6 G) := by rw [if_neg (by simp [okH, inB, c_1])]
    rw [q0, q1]
    exact hP
  · skip
    refine lv_iload_n hx hb dX0_add_4 rfl (lv_at hl 1 rfl) ?_
    refine lv_iconst (v := 2) hx hb dX0_add_5 (by decide) ?_
    refine lv_icmp_gt (tgt := 33) hx hb dX0_add_6 (by decide) (fun c_6 => ?_) (fun c_6 => ?_)
    · skip
      refine lv_iconst (v := (-1)) hx hb dX0_add_33 (by decide) ?_
      refine mu_iret hx hb hr hlocks hS dX0_add_34 ?_ ?_
      · rw [if_neg (by simp [okH, inB, c_1, c_6])]
      have q0 : (nI (if okH kd sn sd rs lt = true then adn 5 nh else nh)) = (nI nh) := by rw [if_neg (by simp [okH, inB, c_1, c_6])]
      have q1 : (fl 6 (if okH kd sn sd rs lt = true then haddT nh G kd sn sd rs lt else G)) = (fl 6 G) := by rw [if_neg (by simp [okH, inB, c_1, c_6])]
      rw [q0, q1]
      exact hP
    · skip
      refine lv_iload_n hx hb dX0_add_9 rfl (lv_at hl 2 rfl) ?_
      refine lv_iconst (v := 1) hx hb dX0_add_10 (by decide) ?_
      refine lv_icmp_lt (tgt := 33) hx hb dX0_add_11 (by decide) (fun c_11 => ?_) (fun c_11 => ?_)
      · skip
        refine lv_iconst (v := (-1)) hx hb dX0_add_33 (by decide) ?_
        refine mu_iret hx hb hr hlocks hS dX0_add_34 ?_ ?_
        · rw [if_neg (by simp [okH, inB, c_1, c_6, c_11])]
        have q0 : (nI (if okH kd sn sd rs lt = true then adn 5 nh else nh)) = (nI nh) := by rw [if_neg (by simp [okH, inB, c_1, c_6, c_11])]
        have q1 : (fl 6 (if okH kd sn sd rs lt = true then haddT nh G kd sn sd rs lt else G)) = (fl 6 G) := by rw [if_neg (by simp [okH, inB, c_1, c_6, c_11])]
        rw [q0, q1]
        exact hP
      · skip
        refine lv_iload_n hx hb dX0_add_14 rfl (lv_at hl 2 rfl) ?_
        refine lv_sipush (v := 365) hx hb dX0_add_15 (by decide) ?_
        refine lv_icmp_gt (tgt := 33) hx hb dX0_add_18 (by decide) (fun c_18 => ?_) (fun c_18 => ?_)
        · skip
          refine lv_iconst (v := (-1)) hx hb dX0_add_33 (by decide) ?_
          refine mu_iret hx hb hr hlocks hS dX0_add_34 ?_ ?_
          · rw [if_neg (by simp [okH, inB, c_1, c_6, c_11, c_18])]
          have q0 : (nI (if okH kd sn sd rs lt = true then adn 5 nh else nh)) = (nI nh) := by rw [if_neg (by simp [okH, inB, c_1, c_6, c_11, c_18])]
          have q1 : (fl 6 (if okH kd sn sd rs lt = true then haddT nh G kd sn sd rs lt else G)) = (fl 6 G) := by rw [if_neg (by simp [okH, inB, c_1, c_6, c_11, c_18])]
          rw [q0, q1]
          exact hP
        · skip
          refine lv_iload_n hx hb dX0_add_21 rfl (lv_at hl 3 rfl) ?_
          refine lv_iconst (v := 1) hx hb dX0_add_22 (by decide) ?_
          refine lv_icmp_lt (tgt := 33) hx hb dX0_add_23 (by decide) (fun c_23 => ?_) (fun c_23 => ?_)
          · skip
            refine lv_iconst (v := (-1)) hx hb dX0_add_33 (by decide) ?_
            refine mu_iret hx hb hr hlocks hS dX0_add_34 ?_ ?_
            · rw [if_neg (by simp [okH, inB, c_1, c_6, c_11, c_18, c_23])]
            have q0 : (nI (if okH kd sn sd rs lt = true then adn 5 nh else nh)) = (nI nh) := by rw [if_neg (by simp [okH, inB, c_1, c_6, c_11, c_18, c_23])]
            have q1 : (fl 6 (if okH kd sn sd rs lt = true then haddT nh G kd sn sd rs lt else G)) = (fl 6 G) := by rw [if_neg (by simp [okH, inB, c_1, c_6, c_11, c_18, c_23])]
            rw [q0, q1]
            exact hP
          · skip
            refine lv_iload_n hx hb dX0_add_26 rfl (lv_at hl 3 rfl) ?_
            refine lv_sipush (v := 9973) hx hb dX0_add_27 (by decide) ?_
            refine lv_icmp_lt (tgt := 35) hx hb dX0_add_30 (by decide) (fun c_30 => ?_) (fun c_30 => ?_)
            · skip
              have c_30 : ¬ 9972 < sd := by rw [lt9973] at c_30; exact c_30
              refine lv_iload hx hb dX0_add_35 (lv_at hl 4 rfl) ?_
              refine lv_if_lt (tgt := 60) hx hb dX0_add_37 (by decide) (fun c_37 => ?_) (fun c_37 => ?_)
              · skip
                refine lv_iconst (v := (-1)) hx hb dX0_add_60 (by decide) ?_
                refine mu_iret hx hb hr hlocks hS dX0_add_61 ?_ ?_
                · rw [if_neg (by simp [okH, inB, c_1, c_6, c_11, c_18, c_23, c_30, c_37])]
                have q0 : (nI (if okH kd sn sd rs lt = true then adn 5 nh else nh)) = (nI nh) := by rw [if_neg (by simp [okH, inB, c_1, c_6, c_11, c_18, c_23, c_30, c_37])]
                have q1 : (fl 6 (if okH kd sn sd rs lt = true then haddT nh G kd sn sd rs lt else G)) = (fl 6 G) := by rw [if_neg (by simp [okH, inB, c_1, c_6, c_11, c_18, c_23, c_30, c_37])]
                rw [q0, q1]
                exact hP
              · skip
                refine lv_iload hx hb dX0_add_40 (lv_at hl 4 rfl) ?_
                refine lv_sipush (v := 255) hx hb dX0_add_42 (by decide) ?_
                refine lv_icmp_gt (tgt := 60) hx hb dX0_add_45 (by decide) (fun c_45 => ?_) (fun c_45 => ?_)
                · skip
                  refine lv_iconst (v := (-1)) hx hb dX0_add_60 (by decide) ?_
                  refine mu_iret hx hb hr hlocks hS dX0_add_61 ?_ ?_
                  · rw [if_neg (by simp [okH, inB, c_1, c_6, c_11, c_18, c_23, c_30, c_37, c_45])]
                  have q0 : (nI (if okH kd sn sd rs lt = true then adn 5 nh else nh)) = (nI nh) := by rw [if_neg (by simp [okH, inB, c_1, c_6, c_11, c_18, c_23, c_30, c_37, c_45])]
                  have q1 : (fl 6 (if okH kd sn sd rs lt = true then haddT nh G kd sn sd rs lt else G)) = (fl 6 G) := by rw [if_neg (by simp [okH, inB, c_1, c_6, c_11, c_18, c_23, c_30, c_37, c_45])]
                  rw [q0, q1]
                  exact hP
                · skip
                  refine lv_iload hx hb dX0_add_48 (lv_at hl 5 rfl) ?_
                  refine lv_if_lt (tgt := 60) hx hb dX0_add_50 (by decide) (fun c_50 => ?_) (fun c_50 => ?_)
                  · skip
                    refine lv_iconst (v := (-1)) hx hb dX0_add_60 (by decide) ?_
                    refine mu_iret hx hb hr hlocks hS dX0_add_61 ?_ ?_
                    · rw [if_neg (by simp [okH, inB, c_1, c_6, c_11, c_18, c_23, c_30, c_37, c_45, c_50])]
                    have q0 : (nI (if okH kd sn sd rs lt = true then adn 5 nh else nh)) = (nI nh) := by rw [if_neg (by simp [okH, inB, c_1, c_6, c_11, c_18, c_23, c_30, c_37, c_45, c_50])]
                    have q1 : (fl 6 (if okH kd sn sd rs lt = true then haddT nh G kd sn sd rs lt else G)) = (fl 6 G) := by rw [if_neg (by simp [okH, inB, c_1, c_6, c_11, c_18, c_23, c_30, c_37, c_45, c_50])]
                    rw [q0, q1]
                    exact hP
                  · skip
                    refine lv_iload hx hb dX0_add_53 (lv_at hl 5 rfl) ?_
                    refine lv_bipush (v := 24) hx hb dX0_add_55 (by decide) ?_
                    refine lv_icmp_le (tgt := 62) hx hb dX0_add_57 (by decide) (fun c_57 => ?_) (fun c_57 => ?_)
                    · skip
                      have c_57 : ¬ 24 < lt := by rw [le24] at c_57; exact c_57
                      refine lv_aload_n hx hb dX0_add_62 rfl (lv_at hl 0 rfl) ?_
                      refine va_get (D := D) (ci := 0) (v := .ref hH) (C := RX0) (T := TX0) (N := 1) hx hb hts hin0 hown hK hP 0 rfl rfl 0 (by decide) hf16 (fun _ h9 => h9) rfl dX0_add_63 ?_
                      refine mcV (As := []) (rest := []) (ci := 3) (wn := [(hu, .inr (0, [.ref hH])), (hH, .inr (3, [.int (nI 5), .int (nI 6), .ref aH, .int (nI (adn 5 nh))])), (aH, .inl (cI, 5 * 6, .inl (fl 6 G)))]) ⟨hx, hb, hml, hown, hts⟩ (kX3_addRow l D cI cZ hH aH 5 6 nh G (by first | assumption | omega)) (cwV 0 hts gX0_add_X3_addRow rfl rfl rfl (by decide +kernel) ⟨Nat.le_of_ble_eq_true rfl, Nat.le_of_ble_eq_true rfl⟩) hK hP hD hS [1, 2] rfl rfl rfl rfl rfl rfl rfl rfl rfl hl.1 rfl (Nat.le_of_ble_eq_true rfl) ⟨Nat.zero_le _, Nat.zero_le _⟩ dX0_add_66 (fun H locs hP hD hS => ?_)
                      refine W.eq (g2 := F0 mm 69 ls (.int (arow 5 nh) :: [])) rfl ?_
                      refine lv_istore (lv' := [(6, .int (arow 5 nh)), (0, .ref hu), (1, .int kd), (2, .int sn), (3, .int sd), (4, .int rs), (5, .int lt)]) hx hb dX0_add_69 hl (by decide) rfl (fun ls hl => ?_)
                      refine lv_aload_n hx hb dX0_add_71 rfl (lv_at hl 1 rfl) ?_
                      refine va_get (D := D) (ci := 0) (v := .ref hH) (C := RX0) (T := TX0) (N := 1) hx hb hts hin0 hown hK hP 0 rfl rfl 0 (by decide) hf16 (fun _ h9 => h9) rfl dX0_add_72 ?_
                      refine lv_iload hx hb dX0_add_75 (lv_at hl 0 rfl) ?_
                      refine lv_iconst (v := 0) hx hb dX0_add_77 (by decide) ?_
                      refine lv_iload_n hx hb dX0_add_78 rfl (lv_at hl 2 rfl) ?_
                      refine mcV (As := [.int (arow 5 nh), .int 0, .int kd]) (rest := []) (ci := 3) (wn := [(hu, .inr (0, [.ref hH])), (hH, .inr (3, [.int (nI 5), .int (nI 6), .ref aH, .int (nI (adn 5 nh))])), (aH, .inl (cI, 5 * 6, .inl (fl 6 (tput (adn 5 nh) 6 G (arow 5 nh) 0 kd))))]) ⟨hx, hb, hml, hown, hts⟩ (kX3_put l D cI cZ hH aH 5 6 (adn 5 nh) G (arow 5 nh) 0 kd (by have := adn_le hnh; omega)) (cwV 3 hts gX0_add_X3_put rfl rfl rfl (by decide +kernel) ⟨Nat.le_of_ble_eq_true rfl, Nat.le_of_ble_eq_true rfl⟩) hK hP hD hS [1, 2] rfl rfl rfl rfl rfl rfl rfl rfl rfl hl.1 rfl (Nat.le_of_ble_eq_true rfl) ⟨Nat.zero_le _, Nat.zero_le _⟩ dX0_add_79 (fun H locs hP hD hS => ?_)
                      refine W.eq (g2 := F0 mm 82 ls []) rfl ?_
                      refine lv_aload_n hx hb dX0_add_82 rfl (lv_at hl 1 rfl) ?_
                      refine va_get (D := D) (ci := 0) (v := .ref hH) (C := RX0) (T := TX0) (N := 1) hx hb hts hin0 hown hK hP 0 rfl rfl 0 (by decide) hf16 (fun _ h9 => h9) rfl dX0_add_83 ?_
                      refine lv_iload hx hb dX0_add_86 (lv_at hl 0 rfl) ?_
                      refine lv_iconst (v := 1) hx hb dX0_add_88 (by decide) ?_
                      refine lv_iload_n hx hb dX0_add_89 rfl (lv_at hl 3 rfl) ?_
                      refine mcV (As := [.int (arow 5 nh), .int 1, .int sn]) (rest := []) (ci := 3) (wn := [(hu, .inr (0, [.ref hH])), (hH, .inr (3, [.int (nI 5), .int (nI 6), .ref aH, .int (nI (adn 5 nh))])), (aH, .inl (cI, 5 * 6, .inl (fl 6 (tput (adn 5 nh) 6 (tput (adn 5 nh) 6 G (arow 5 nh) 0 kd) (arow 5 nh) 1 sn))))]) ⟨hx, hb, hml, hown, hts⟩ (kX3_put l D cI cZ hH aH 5 6 (adn 5 nh) (tput (adn 5 nh) 6 G (arow 5 nh) 0 kd) (arow 5 nh) 1 sn (by have := adn_le hnh; omega)) (cwV 3 hts gX0_add_X3_put rfl rfl rfl (by decide +kernel) ⟨Nat.le_of_ble_eq_true rfl, Nat.le_of_ble_eq_true rfl⟩) hK hP hD hS [1, 2] rfl rfl rfl rfl rfl rfl rfl rfl rfl hl.1 rfl (Nat.le_of_ble_eq_true rfl) ⟨Nat.zero_le _, Nat.zero_le _⟩ dX0_add_90 (fun H locs hP hD hS => ?_)
                      refine W.eq (g2 := F0 mm 93 ls []) rfl ?_
                      refine lv_aload_n hx hb dX0_add_93 rfl (lv_at hl 1 rfl) ?_
                      refine va_get (D := D) (ci := 0) (v := .ref hH) (C := RX0) (T := TX0) (N := 1) hx hb hts hin0 hown hK hP 0 rfl rfl 0 (by decide) hf16 (fun _ h9 => h9) rfl dX0_add_94 ?_
                      refine lv_iload hx hb dX0_add_97 (lv_at hl 0 rfl) ?_
                      refine lv_iconst (v := 2) hx hb dX0_add_99 (by decide) ?_
                      refine lv_iload_n hx hb dX0_add_100 rfl (lv_at hl 4 rfl) ?_
                      refine mcV (As := [.int (arow 5 nh), .int 2, .int sd]) (rest := []) (ci := 3) (wn := [(hu, .inr (0, [.ref hH])), (hH, .inr (3, [.int (nI 5), .int (nI 6), .ref aH, .int (nI (adn 5 nh))])), (aH, .inl (cI, 5 * 6, .inl (fl 6 (tput (adn 5 nh) 6 (tput (adn 5 nh) 6 (tput (adn 5 nh) 6 G (arow 5 nh) 0 kd) (arow 5 nh) 1 sn) (arow 5 nh) 2 sd))))]) ⟨hx, hb, hml, hown, hts⟩ (kX3_put l D cI cZ hH aH 5 6 (adn 5 nh) (tput (adn 5 nh) 6 (tput (adn 5 nh) 6 G (arow 5 nh) 0 kd) (arow 5 nh) 1 sn) (arow 5 nh) 2 sd (by have := adn_le hnh; omega)) (cwV 3 hts gX0_add_X3_put rfl rfl rfl (by decide +kernel) ⟨Nat.le_of_ble_eq_true rfl, Nat.le_of_ble_eq_true rfl⟩) hK hP hD hS [1, 2] rfl rfl rfl rfl rfl rfl rfl rfl rfl hl.1 rfl (Nat.le_of_ble_eq_true rfl) ⟨Nat.zero_le _, Nat.zero_le _⟩ dX0_add_101 (fun H locs hP hD hS => ?_)
                      refine W.eq (g2 := F0 mm 104 ls []) rfl ?_
                      refine lv_aload_n hx hb dX0_add_104 rfl (lv_at hl 1 rfl) ?_
                      refine va_get (D := D) (ci := 0) (v := .ref hH) (C := RX0) (T := TX0) (N := 1) hx hb hts hin0 hown hK hP 0 rfl rfl 0 (by decide) hf16 (fun _ h9 => h9) rfl dX0_add_105 ?_
                      refine lv_iload hx hb dX0_add_108 (lv_at hl 0 rfl) ?_
                      refine lv_iconst (v := 3) hx hb dX0_add_110 (by decide) ?_
                      refine lv_iload hx hb dX0_add_111 (lv_at hl 5 rfl) ?_
                      refine mcV (As := [.int (arow 5 nh), .int 3, .int rs]) (rest := []) (ci := 3) (wn := [(hu, .inr (0, [.ref hH])), (hH, .inr (3, [.int (nI 5), .int (nI 6), .ref aH, .int (nI (adn 5 nh))])), (aH, .inl (cI, 5 * 6, .inl (fl 6 (tput (adn 5 nh) 6 (tput (adn 5 nh) 6 (tput (adn 5 nh) 6 (tput (adn 5 nh) 6 G (arow 5 nh) 0 kd) (arow 5 nh) 1 sn) (arow 5 nh) 2 sd) (arow 5 nh) 3 rs))))]) ⟨hx, hb, hml, hown, hts⟩ (kX3_put l D cI cZ hH aH 5 6 (adn 5 nh) (tput (adn 5 nh) 6 (tput (adn 5 nh) 6 (tput (adn 5 nh) 6 G (arow 5 nh) 0 kd) (arow 5 nh) 1 sn) (arow 5 nh) 2 sd) (arow 5 nh) 3 rs (by have := adn_le hnh; omega)) (cwV 3 hts gX0_add_X3_put rfl rfl rfl (by decide +kernel) ⟨Nat.le_of_ble_eq_true rfl, Nat.le_of_ble_eq_true rfl⟩) hK hP hD hS [1, 2] rfl rfl rfl rfl rfl rfl rfl rfl rfl hl.1 rfl (Nat.le_of_ble_eq_true rfl) ⟨Nat.zero_le _, Nat.zero_le _⟩ dX0_add_113 (fun H locs hP hD hS => ?_)
                      refine W.eq (g2 := F0 mm 116 ls []) rfl ?_
                      refine lv_aload_n hx hb dX0_add_116 rfl (lv_at hl 1 rfl) ?_
                      refine va_get (D := D) (ci := 0) (v := .ref hH) (C := RX0) (T := TX0) (N := 1) hx hb hts hin0 hown hK hP 0 rfl rfl 0 (by decide) hf16 (fun _ h9 => h9) rfl dX0_add_117 ?_
                      refine lv_iload hx hb dX0_add_120 (lv_at hl 0 rfl) ?_
                      refine lv_iconst (v := 4) hx hb dX0_add_122 (by decide) ?_
                      refine lv_iload hx hb dX0_add_123 (lv_at hl 6 rfl) ?_
                      refine mcV (As := [.int (arow 5 nh), .int 4, .int lt]) (rest := []) (ci := 3) (wn := [(hu, .inr (0, [.ref hH])), (hH, .inr (3, [.int (nI 5), .int (nI 6), .ref aH, .int (nI (adn 5 nh))])), (aH, .inl (cI, 5 * 6, .inl (fl 6 (tput (adn 5 nh) 6 (tput (adn 5 nh) 6 (tput (adn 5 nh) 6 (tput (adn 5 nh) 6 (tput (adn 5 nh) 6 G (arow 5 nh) 0 kd) (arow 5 nh) 1 sn) (arow 5 nh) 2 sd) (arow 5 nh) 3 rs) (arow 5 nh) 4 lt))))]) ⟨hx, hb, hml, hown, hts⟩ (kX3_put l D cI cZ hH aH 5 6 (adn 5 nh) (tput (adn 5 nh) 6 (tput (adn 5 nh) 6 (tput (adn 5 nh) 6 (tput (adn 5 nh) 6 G (arow 5 nh) 0 kd) (arow 5 nh) 1 sn) (arow 5 nh) 2 sd) (arow 5 nh) 3 rs) (arow 5 nh) 4 lt (by have := adn_le hnh; omega)) (cwV 3 hts gX0_add_X3_put rfl rfl rfl (by decide +kernel) ⟨Nat.le_of_ble_eq_true rfl, Nat.le_of_ble_eq_true rfl⟩) hK hP hD hS [1, 2] rfl rfl rfl rfl rfl rfl rfl rfl rfl hl.1 rfl (Nat.le_of_ble_eq_true rfl) ⟨Nat.zero_le _, Nat.zero_le _⟩ dX0_add_125 (fun H locs hP hD hS => ?_)
                      refine W.eq (g2 := F0 mm 128 ls []) rfl ?_
                      refine lv_aload_n hx hb dX0_add_128 rfl (lv_at hl 1 rfl) ?_
                      refine va_get (D := D) (ci := 0) (v := .ref hH) (C := RX0) (T := TX0) (N := 1) hx hb hts hin0 hown hK hP 0 rfl rfl 0 (by decide) hf16 (fun _ h9 => h9) rfl dX0_add_129 ?_
                      refine lv_iload hx hb dX0_add_132 (lv_at hl 0 rfl) ?_
                      refine lv_iconst (v := 5) hx hb dX0_add_134 (by decide) ?_
                      refine lv_iconst (v := 0) hx hb dX0_add_135 (by decide) ?_
                      refine mcV (As := [.int (arow 5 nh), .int 5, .int 0]) (rest := []) (ci := 3) (wn := [(hu, .inr (0, [.ref hH])), (hH, .inr (3, [.int (nI 5), .int (nI 6), .ref aH, .int (nI (adn 5 nh))])), (aH, .inl (cI, 5 * 6, .inl (fl 6 (tput (adn 5 nh) 6 (tput (adn 5 nh) 6 (tput (adn 5 nh) 6 (tput (adn 5 nh) 6 (tput (adn 5 nh) 6 (tput (adn 5 nh) 6 G (arow 5 nh) 0 kd) (arow 5 nh) 1 sn) (arow 5 nh) 2 sd) (arow 5 nh) 3 rs) (arow 5 nh) 4 lt) (arow 5 nh) 5 0))))]) ⟨hx, hb, hml, hown, hts⟩ (kX3_put l D cI cZ hH aH 5 6 (adn 5 nh) (tput (adn 5 nh) 6 (tput (adn 5 nh) 6 (tput (adn 5 nh) 6 (tput (adn 5 nh) 6 (tput (adn 5 nh) 6 G (arow 5 nh) 0 kd) (arow 5 nh) 1 sn) (arow 5 nh) 2 sd) (arow 5 nh) 3 rs) (arow 5 nh) 4 lt) (arow 5 nh) 5 0 (by have := adn_le hnh; omega)) (cwV 3 hts gX0_add_X3_put rfl rfl rfl (by decide +kernel) ⟨Nat.le_of_ble_eq_true rfl, Nat.le_of_ble_eq_true rfl⟩) hK hP hD hS [1, 2] rfl rfl rfl rfl rfl rfl rfl rfl rfl hl.1 rfl (Nat.le_of_ble_eq_true rfl) ⟨Nat.zero_le _, Nat.zero_le _⟩ dX0_add_136 (fun H locs hP hD hS => ?_)
                      refine W.eq (g2 := F0 mm 139 ls []) rfl ?_
                      refine lv_iload hx hb dX0_add_139 (lv_at hl 0 rfl) ?_
                      refine mu_iret hx hb hr hlocks hS dX0_add_141 ?_ ?_
                      · rw [if_pos (by simp [okH, inB, c_1, c_6, c_11, c_18, c_23, c_30, c_37, c_45, c_50, c_57])] <;> rfl
                      have q0 : (nI (if okH kd sn sd rs lt = true then adn 5 nh else nh)) = (nI (adn 5 nh)) := by rw [if_pos (by simp [okH, inB, c_1, c_6, c_11, c_18, c_23, c_30, c_37, c_45, c_50, c_57])] <;> rfl
                      have q1 : (fl 6 (if okH kd sn sd rs lt = true then haddT nh G kd sn sd rs lt else G)) = (fl 6 (tput (adn 5 nh) 6 (tput (adn 5 nh) 6 (tput (adn 5 nh) 6 (tput (adn 5 nh) 6 (tput (adn 5 nh) 6 (tput (adn 5 nh) 6 G (arow 5 nh) 0 kd) (arow 5 nh) 1 sn) (arow 5 nh) 2 sd) (arow 5 nh) 3 rs) (arow 5 nh) 4 lt) (arow 5 nh) 5 0)) := by rw [if_pos (by simp [okH, inB, c_1, c_6, c_11, c_18, c_23, c_30, c_37, c_45, c_50, c_57])] <;> rfl
                      rw [q0, q1]
                      exact hP
                    · skip
                      have c_57 : 24 < lt := by rw [le24] at c_57; exact Classical.not_not.mp c_57
                      refine lv_iconst (v := (-1)) hx hb dX0_add_60 (by decide) ?_
                      refine mu_iret hx hb hr hlocks hS dX0_add_61 ?_ ?_
                      · rw [if_neg (by simp [okH, inB, c_1, c_6, c_11, c_18, c_23, c_30, c_37, c_45, c_50, c_57])]
                      have q0 : (nI (if okH kd sn sd rs lt = true then adn 5 nh else nh)) = (nI nh) := by rw [if_neg (by simp [okH, inB, c_1, c_6, c_11, c_18, c_23, c_30, c_37, c_45, c_50, c_57])]
                      have q1 : (fl 6 (if okH kd sn sd rs lt = true then haddT nh G kd sn sd rs lt else G)) = (fl 6 G) := by rw [if_neg (by simp [okH, inB, c_1, c_6, c_11, c_18, c_23, c_30, c_37, c_45, c_50, c_57])]
                      rw [q0, q1]
                      exact hP
            · skip
              have c_30 : 9972 < sd := by rw [lt9973] at c_30; exact Classical.not_not.mp c_30
              refine lv_iconst (v := (-1)) hx hb dX0_add_33 (by decide) ?_
              refine mu_iret hx hb hr hlocks hS dX0_add_34 ?_ ?_
              · rw [if_neg (by simp [okH, inB, c_1, c_6, c_11, c_18, c_23, c_30])]
              have q0 : (nI (if okH kd sn sd rs lt = true then adn 5 nh else nh)) = (nI nh) := by rw [if_neg (by simp [okH, inB, c_1, c_6, c_11, c_18, c_23, c_30])]
              have q1 : (fl 6 (if okH kd sn sd rs lt = true then haddT nh G kd sn sd rs lt else G)) = (fl 6 G) := by rw [if_neg (by simp [okH, inB, c_1, c_6, c_11, c_18, c_23, c_30])]
              rw [q0, q1]
              exact hP
