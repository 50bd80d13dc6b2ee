set_option maxHeartbeats 4000000 in
set_option maxRecDepth 100000 in
theorem kX2_isMark (l : Launch) (D : va_G) (cI cZ : ClassId)  (m : Int32) : Met l yX2_isMark wsX2_isMark ({ frames := 0, cells := 0, slots := 0, locals := 0 } : Room) (RdP D [(cI, .int), (cZ, .boolean)] [.int m] []) (QcRead (bI (inB m 0 3))) 0 0 (fun _ => False) := by
  refine rd_of (cc := cX2_isMark) (maxL := 1) (ret := (some .boolean)) (by decide) rfl (Nat.le_of_ble_eq_true rfl) ?_
  intro pp ee ss mm bw me cd ls hx hb hr hts hown hlocks hml hP hK hl
  have hl : lv_has ls 1 [(0, .int m)] := hl
  refine lv_iload_n hx hb dX2_isMark_0 rfl (lv_at hl 0 rfl) ?_
  refine lv_if_lt (tgt := 13) hx hb dX2_isMark_1 (by decide) (fun c_1 => ?_) (fun c_1 => ?_)
  · skip
    refine lv_iconst (v := 0) hx hb dX2_isMark_13 (by decide) ?_
    exact rd_zret hx hb hr hlocks dX2_isMark_14 (by simp [bI, inB, ← le4, c_1])
  · skip
    refine lv_iload_n hx hb dX2_isMark_4 rfl (lv_at hl 0 rfl) ?_
    refine lv_iconst (v := 4) hx hb dX2_isMark_5 (by decide) ?_
    refine lv_icmp_ge (tgt := 13) hx hb dX2_isMark_6 (by decide) (fun c_6 => ?_) (fun c_6 => ?_)
    · skip
      refine lv_iconst (v := 0) hx hb dX2_isMark_13 (by decide) ?_
      exact rd_zret hx hb hr hlocks dX2_isMark_14 (by simp [bI, inB, ← le4, c_1, c_6])
    · skip
      refine lv_iconst (v := 1) hx hb dX2_isMark_9 (by decide) ?_
      refine lv_goto (tgt := 14) hx hb dX2_isMark_10 (by decide) ?_
      exact rd_zret hx hb hr hlocks dX2_isMark_14 (by simp [bI, inB, ← le4, c_1, c_6])
set_option maxHeartbeats 4000000 in
set_option maxRecDepth 100000 in
theorem kX2_isMarkNumber (l : Launch) (D : va_G) (cI cZ : ClassId)  (n : Int32) : Met l yX2_isMarkNumber wsX2_isMarkNumber ({ frames := 0, cells := 0, slots := 0, locals := 0 } : Room) (RdP D [(cI, .int), (cZ, .boolean)] [.int n] []) (QcRead (bI (inB n 0 7))) 0 0 (fun _ => False) := by
  refine rd_of (cc := cX2_isMarkNumber) (maxL := 1) (ret := (some .boolean)) (by decide) rfl (Nat.le_of_ble_eq_true rfl) ?_
  intro pp ee ss mm bw me cd ls hx hb hr hts hown hlocks hml hP hK hl
  have hl : lv_has ls 1 [(0, .int n)] := hl
  refine lv_iload_n hx hb dX2_isMarkNumber_0 rfl (lv_at hl 0 rfl) ?_
  refine lv_if_lt (tgt := 14) hx hb dX2_isMarkNumber_1 (by decide) (fun c_1 => ?_) (fun c_1 => ?_)
  · skip
    refine lv_iconst (v := 0) hx hb dX2_isMarkNumber_14 (by decide) ?_
    exact rd_zret hx hb hr hlocks dX2_isMarkNumber_15 (by simp [bI, inB, c_1])
  · skip
    refine lv_iload_n hx hb dX2_isMarkNumber_4 rfl (lv_at hl 0 rfl) ?_
    refine lv_bipush (v := 7) hx hb dX2_isMarkNumber_5 (by decide) ?_
    refine lv_icmp_gt (tgt := 14) hx hb dX2_isMarkNumber_7 (by decide) (fun c_7 => ?_) (fun c_7 => ?_)
    · skip
      refine lv_iconst (v := 0) hx hb dX2_isMarkNumber_14 (by decide) ?_
      exact rd_zret hx hb hr hlocks dX2_isMarkNumber_15 (by simp [bI, inB, c_1, c_7])
    · skip
      refine lv_iconst (v := 1) hx hb dX2_isMarkNumber_10 (by decide) ?_
      refine lv_goto (tgt := 15) hx hb dX2_isMarkNumber_11 (by decide) ?_
      exact rd_zret hx hb hr hlocks dX2_isMarkNumber_15 (by simp [bI, inB, c_1, c_7])
set_option maxHeartbeats 4000000 in
set_option maxRecDepth 100000 in
theorem kX2_isAmong (l : Launch) (D : va_G) (cI cZ : ClassId)  (x : Int32) (b : Int32) : Met l yX2_isAmong wsX2_isAmong ({ frames := 0, cells := 0, slots := 0, locals := 0 } : Room) (RdP D [(cI, .int), (cZ, .boolean)] [.int x, .int b] []) (QcRead (bI (isAm x b))) 0 0 (fun _ => False) := by
  refine rd_of (cc := cX2_isAmong) (maxL := 2) (ret := (some .boolean)) (by decide) rfl (Nat.le_of_ble_eq_true rfl) ?_
  intro pp ee ss mm bw me cd ls hx hb hr hts hown hlocks hml hP hK hl
  have hl : lv_has ls 2 [(0, .int x), (1, .int b)] := hl
  refine lv_iload_n hx hb dX2_isAmong_0 rfl (lv_at hl 0 rfl) ?_
  refine lv_iload_n hx hb dX2_isAmong_1 rfl (lv_at hl 1 rfl) ?_
  refine lv_ishr hx hb dX2_isAmong_2 ?_
  refine lv_iconst (v := 1) hx hb dX2_isAmong_3 (by decide) ?_
  refine lv_iand hx hb dX2_isAmong_4 ?_
  refine lv_iconst (v := 1) hx hb dX2_isAmong_5 (by decide) ?_
  refine lv_icmp_ne (tgt := 13) hx hb dX2_isAmong_6 (by decide) (fun c_6 => ?_) (fun c_6 => ?_)
  · skip
    refine lv_iconst (v := 0) hx hb dX2_isAmong_13 (by decide) ?_
    exact rd_zret hx hb hr hlocks dX2_isAmong_14 (by simp [bI, isAm, c_6])
  · skip
    refine lv_iconst (v := 1) hx hb dX2_isAmong_9 (by decide) ?_
    refine lv_goto (tgt := 14) hx hb dX2_isAmong_10 (by decide) ?_
    exact rd_zret hx hb hr hlocks dX2_isAmong_14 (by simp [bI, isAm, c_6])
set_option maxHeartbeats 4000000 in
set_option maxRecDepth 100000 in
theorem kX2_size (l : Launch) (D : va_G) (cI cZ : ClassId) (pe hP_ aP np : Nat) (P : Nat → Nat → Int32) (hnp : np ≤ 24) : Met l yX2_size wsX2_size ({ frames := 1, cells := 0, slots := 0, locals := 20 } : Room) (RdP D [(cI, .int), (cZ, .boolean)] [.ref pe] [(pe, .inr (2, [.ref hP_])), (hP_, .inr (3, [.int (nI 24), .int (nI 6), .ref aP, .int (nI np)])), (aP, .inl (cI, 24 * 6, .inl (fl 6 P)))]) (QcRead (nI np)) 0 0 (fun _ => False) := by
  refine rd_of (cc := cX2_size) (maxL := 1) (ret := (some .int)) (by decide) rfl (Nat.le_of_ble_eq_true rfl) ?_
  intro pp ee ss mm bw me cd ls hx hb hr hts hown hlocks hml hP hK hl
  have hl : lv_has ls 1 [(0, .ref pe)] := hl
  have hf16 := hts (.fieldLink RX2 16 "OtherNames$People" "rows" "LOtherNames$Rows;") (by decide +kernel)
  have hin2 := (show ∀ w ∈ wsX20, w ∈ wsX2_size by decide +kernel)
  refine lv_aload_n hx hb dX2_size_0 rfl (lv_at hl 0 rfl) ?_
  refine va_get (D := D) (ci := 2) (v := .ref hP_) (C := RX2) (T := TX2) (N := 1) hx hb hts hin2 hown hK hP 0 rfl rfl 0 (by decide) hf16 (fun _ h9 => h9) rfl dX2_size_1 ?_
  refine rcV (As := []) (rest := []) (ci := 3) ⟨hx, hb, hml, hown, hts⟩ (kX3_size l D cI cZ hP_ aP 24 6 np P (by first | assumption | omega)) (cwV 0 hts gX2_size_X3_size rfl rfl rfl (by decide +kernel) ⟨Nat.le_of_ble_eq_true rfl, Nat.le_of_ble_eq_true rfl⟩) hK hP [1, 2] rfl rfl rfl rfl rfl hl.1 rfl (Nat.le_of_ble_eq_true rfl) ⟨Nat.zero_le _, Nat.zero_le _⟩ dX2_size_4 ?_
  exact rd_iret hx hb hr hlocks dX2_size_7 (by rfl)
set_option maxHeartbeats 4000000 in
set_option maxRecDepth 100000 in
theorem kX2_isThere (l : Launch) (D : va_G) (cI cZ : ClassId) (pe hP_ aP np : Nat) (P : Nat → Nat → Int32) (p : Int32) (hnp : np ≤ 24) : Met l yX2_isThere wsX2_isThere ({ frames := 1, cells := 0, slots := 0, locals := 21 } : Room) (RdP D [(cI, .int), (cZ, .boolean)] [.ref pe, .int p] [(pe, .inr (2, [.ref hP_])), (hP_, .inr (3, [.int (nI 24), .int (nI 6), .ref aP, .int (nI np)])), (aP, .inl (cI, 24 * 6, .inl (fl 6 P)))]) (QcRead (bI (inR np p))) 0 0 (fun _ => False) := by
  refine rd_of (cc := cX2_isThere) (maxL := 2) (ret := (some .boolean)) (by decide) rfl (Nat.le_of_ble_eq_true rfl) ?_
  intro pp ee ss mm bw me cd ls hx hb hr hts hown hlocks hml hP hK hl
  have hl : lv_has ls 2 [(0, .ref pe), (1, .int p)] := hl
  have hf16 := hts (.fieldLink RX2 16 "OtherNames$People" "rows" "LOtherNames$Rows;") (by decide +kernel)
  have hin2 := (show ∀ w ∈ wsX20, w ∈ wsX2_isThere by decide +kernel)
  refine lv_aload_n hx hb dX2_isThere_0 rfl (lv_at hl 0 rfl) ?_
  refine va_get (D := D) (ci := 2) (v := .ref hP_) (C := RX2) (T := TX2) (N := 1) hx hb hts hin2 hown hK hP 0 rfl rfl 0 (by decide) hf16 (fun _ h9 => h9) rfl dX2_isThere_1 ?_
  refine lv_iload_n hx hb dX2_isThere_4 rfl (lv_at hl 1 rfl) ?_
  refine rcV (As := [.int p]) (rest := []) (ci := 3) ⟨hx, hb, hml, hown, hts⟩ (kX3_isThere l D cI cZ hP_ aP 24 6 np P p (by first | assumption | omega)) (cwV 1 hts gX2_isThere_X3_isThere rfl rfl rfl (by decide +kernel) ⟨Nat.le_of_ble_eq_true rfl, Nat.le_of_ble_eq_true rfl⟩) hK hP [1, 2] rfl rfl rfl rfl rfl hl.1 rfl (Nat.le_of_ble_eq_true rfl) ⟨Nat.zero_le _, Nat.zero_le _⟩ dX2_isThere_5 ?_
  exact rd_zret hx hb hr hlocks dX2_isThere_8 (by rfl)
set_option maxHeartbeats 4000000 in
set_option maxRecDepth 100000 in
theorem kX2_markOf (l : Launch) (D : va_G) (cI cZ : ClassId) (pe hP_ aP np : Nat) (P : Nat → Nat → Int32) (p : Int32) (m : Int32) (hnp : np ≤ 24) : Met l yX2_markOf wsX2_markOf ({ frames := 2, cells := 0, slots := 0, locals := 44 } : Room) (RdP D [(cI, .int), (cZ, .boolean)] [.ref pe, .int p, .int m] [(pe, .inr (2, [.ref hP_])), (hP_, .inr (3, [.int (nI 24), .int (nI 6), .ref aP, .int (nI np)])), (aP, .inl (cI, 24 * 6, .inl (fl 6 P)))]) (QcRead (mkOf np P p m)) 0 0 (fun _ => False) := by
  refine rd_of (cc := cX2_markOf) (maxL := 3) (ret := (some .int)) (by decide) rfl (Nat.le_of_ble_eq_true rfl) ?_
  intro pp ee ss mm bw me cd ls hx hb hr hts hown hlocks hml hP hK hl
  have hl : lv_has ls 3 [(0, .ref pe), (1, .int p), (2, .int m)] := hl
  have hf16 := hts (.fieldLink RX2 16 "OtherNames$People" "rows" "LOtherNames$Rows;") (by decide +kernel)
  have hin2 := (show ∀ w ∈ wsX20, w ∈ wsX2_markOf by decide +kernel)
  refine lv_iload_n hx hb dX2_markOf_0 rfl (lv_at hl 2 rfl) ?_
  refine rcS (As := [.int m]) (rest := []) ⟨hx, hb, hml, hown, hts⟩ (kX2_isMark l D cI cZ m) (va_cwS 1 hts gX2_markOf_X2_isMark rfl rfl rfl (by decide +kernel) ⟨Nat.le_of_ble_eq_true rfl, Nat.le_of_ble_eq_true rfl⟩) hK hP [] rfl rfl hl.1 rfl (Nat.le_of_ble_eq_true rfl) ⟨Nat.zero_le _, Nat.zero_le _⟩ dX2_markOf_1 ?_
  refine lb_eq (tgt := 19) hx hb dX2_markOf_4 (by decide) (fun c_4 => ?_) (fun c_4 => ?_)
  · skip
    refine lv_iconst (v := (-1)) hx hb dX2_markOf_19 (by decide) ?_
    exact rd_iret hx hb hr hlocks dX2_markOf_20 (by simp [mkOf, c_4])
  · skip
    refine lv_aload_n hx hb dX2_markOf_7 rfl (lv_at hl 0 rfl) ?_
    refine va_get (D := D) (ci := 2) (v := .ref hP_) (C := RX2) (T := TX2) (N := 1) hx hb hts hin2 hown hK hP 0 rfl rfl 0 (by decide) hf16 (fun _ h9 => h9) rfl dX2_markOf_8 ?_
    refine lv_iload_n hx hb dX2_markOf_11 rfl (lv_at hl 1 rfl) ?_
    refine lv_iload_n hx hb dX2_markOf_12 rfl (lv_at hl 2 rfl) ?_
    refine rcV (As := [.int p, .int m]) (rest := []) (ci := 3) ⟨hx, hb, hml, hown, hts⟩ (kX3_at l D cI cZ hP_ aP 24 6 np P p m (by first | assumption | omega)) (cwV 2 hts gX2_markOf_X3_at rfl rfl rfl (by decide +kernel) ⟨Nat.le_of_ble_eq_true rfl, Nat.le_of_ble_eq_true rfl⟩) hK hP [1, 2] rfl rfl rfl rfl rfl hl.1 rfl (Nat.le_of_ble_eq_true rfl) ⟨Nat.zero_le _, Nat.zero_le _⟩ dX2_markOf_13 ?_
    refine lv_goto (tgt := 20) hx hb dX2_markOf_16 (by decide) ?_
    exact rd_iret hx hb hr hlocks dX2_markOf_20 (by simp [mkOf, c_4])
set_option maxHeartbeats 4000000 in
set_option maxRecDepth 100000 in
theorem kX2_holderOf (l : Launch) (D : va_G) (cI cZ : ClassId) (pe hP_ aP np : Nat) (P : Nat → Nat → Int32) (p : Int32) (hnp : np ≤ 24) : Met l yX2_holderOf wsX2_holderOf ({ frames := 2, cells := 0, slots := 0, locals := 44 } : Room) (RdP D [(cI, .int), (cZ, .boolean)] [.ref pe, .int p] [(pe, .inr (2, [.ref hP_])), (hP_, .inr (3, [.int (nI 24), .int (nI 6), .ref aP, .int (nI np)])), (aP, .inl (cI, 24 * 6, .inl (fl 6 P)))]) (QcRead (tat np 6 P p 4)) 0 0 (fun _ => False) := by
  refine rd_of (cc := cX2_holderOf) (maxL := 2) (ret := (some .int)) (by decide) rfl (Nat.le_of_ble_eq_true rfl) ?_
  intro pp ee ss mm bw me cd ls hx hb hr hts hown hlocks hml hP hK hl
  have hl : lv_has ls 2 [(0, .ref pe), (1, .int p)] := hl
  have hf16 := hts (.fieldLink RX2 16 "OtherNames$People" "rows" "LOtherNames$Rows;") (by decide +kernel)
  have hin2 := (show ∀ w ∈ wsX20, w ∈ wsX2_holderOf by decide +kernel)
  refine lv_aload_n hx hb dX2_holderOf_0 rfl (lv_at hl 0 rfl) ?_
  refine va_get (D := D) (ci := 2) (v := .ref hP_) (C := RX2) (T := TX2) (N := 1) hx hb hts hin2 hown hK hP 0 rfl rfl 0 (by decide) hf16 (fun _ h9 => h9) rfl dX2_holderOf_1 ?_
  refine lv_iload_n hx hb dX2_holderOf_4 rfl (lv_at hl 1 rfl) ?_
  refine lv_iconst (v := 4) hx hb dX2_holderOf_5 (by decide) ?_
  refine rcV (As := [.int p, .int 4]) (rest := []) (ci := 3) ⟨hx, hb, hml, hown, hts⟩ (kX3_at l D cI cZ hP_ aP 24 6 np P p 4 (by first | assumption | omega)) (cwV 2 hts gX2_holderOf_X3_at rfl rfl rfl (by decide +kernel) ⟨Nat.le_of_ble_eq_true rfl, Nat.le_of_ble_eq_true rfl⟩) hK hP [1, 2] rfl rfl rfl rfl rfl hl.1 rfl (Nat.le_of_ble_eq_true rfl) ⟨Nat.zero_le _, Nat.zero_le _⟩ dX2_holderOf_6 ?_
  exact rd_iret hx hb hr hlocks dX2_holderOf_9 (by rfl)
set_option maxHeartbeats 4000000 in
set_option maxRecDepth 100000 in
theorem kX2_isStruckOut (l : Launch) (D : va_G) (cI cZ : ClassId) (pe hP_ aP np : Nat) (P : Nat → Nat → Int32) (p : Int32) (hnp : np ≤ 24) : Met l yX2_isStruckOut wsX2_isStruckOut ({ frames := 2, cells := 0, slots := 0, locals := 44 } : Room) (RdP D [(cI, .int), (cZ, .boolean)] [.ref pe, .int p] [(pe, .inr (2, [.ref hP_])), (hP_, .inr (3, [.int (nI 24), .int (nI 6), .ref aP, .int (nI np)])), (aP, .inl (cI, 24 * 6, .inl (fl 6 P)))]) (QcRead (bI (isSt np P p))) 0 0 (fun _ => False) := by
  refine rd_of (cc := cX2_isStruckOut) (maxL := 2) (ret := (some .boolean)) (by decide) rfl (Nat.le_of_ble_eq_true rfl) ?_
  intro pp ee ss mm bw me cd ls hx hb hr hts hown hlocks hml hP hK hl
  have hl : lv_has ls 2 [(0, .ref pe), (1, .int p)] := hl
  have hf16 := hts (.fieldLink RX2 16 "OtherNames$People" "rows" "LOtherNames$Rows;") (by decide +kernel)
  have hin2 := (show ∀ w ∈ wsX20, w ∈ wsX2_isStruckOut by decide +kernel)
  refine lv_aload_n hx hb dX2_isStruckOut_0 rfl (lv_at hl 0 rfl) ?_
  refine va_get (D := D) (ci := 2) (v := .ref hP_) (C := RX2) (T := TX2) (N := 1) hx hb hts hin2 hown hK hP 0 rfl rfl 0 (by decide) hf16 (fun _ h9 => h9) rfl dX2_isStruckOut_1 ?_
  refine lv_iload_n hx hb dX2_isStruckOut_4 rfl (lv_at hl 1 rfl) ?_
  refine lv_iconst (v := 5) hx hb dX2_isStruckOut_5 (by decide) ?_
  refine rcV (As := [.int p, .int 5]) (rest := []) (ci := 3) ⟨hx, hb, hml, hown, hts⟩ (kX3_at l D cI cZ hP_ aP 24 6 np P p 5 (by first | assumption | omega)) (cwV 2 hts gX2_isStruckOut_X3_at rfl rfl rfl (by decide +kernel) ⟨Nat.le_of_ble_eq_true rfl, Nat.le_of_ble_eq_true rfl⟩) hK hP [1, 2] rfl rfl rfl rfl rfl hl.1 rfl (Nat.le_of_ble_eq_true rfl) ⟨Nat.zero_le _, Nat.zero_le _⟩ dX2_isStruckOut_6 ?_
  refine lv_iconst (v := 1) hx hb dX2_isStruckOut_9 (by decide) ?_
  refine lv_icmp_ne (tgt := 17) hx hb dX2_isStruckOut_10 (by decide) (fun c_10 => ?_) (fun c_10 => ?_)
  · skip
    refine lv_iconst (v := 0) hx hb dX2_isStruckOut_17 (by decide) ?_
    exact rd_zret hx hb hr hlocks dX2_isStruckOut_18 (by simp [bI, isSt, c_10])
  · skip
    refine lv_iconst (v := 1) hx hb dX2_isStruckOut_13 (by decide) ?_
    refine lv_goto (tgt := 18) hx hb dX2_isStruckOut_14 (by decide) ?_
    exact rd_zret hx hb hr hlocks dX2_isStruckOut_18 (by simp [bI, isSt, c_10])
set_option maxHeartbeats 4000000 in
set_option maxRecDepth 100000 in
theorem kX2_isHead (l : Launch) (D : va_G) (cI cZ : ClassId) (pe hP_ aP np : Nat) (P : Nat → Nat → Int32) (p : Int32) (hnp : np ≤ 24) : Met l yX2_isHead wsX2_isHead ({ frames := 3, cells := 0, slots := 0, locals := 65 } : Room) (RdP D [(cI, .int), (cZ, .boolean)] [.ref pe, .int p] [(pe, .inr (2, [.ref hP_])), (hP_, .inr (3, [.int (nI 24), .int (nI 6), .ref aP, .int (nI np)])), (aP, .inl (cI, 24 * 6, .inl (fl 6 P)))]) (QcRead (bI (isHd np P p))) 0 0 (fun _ => False) := by
  refine rd_of (cc := cX2_isHead) (maxL := 2) (ret := (some .boolean)) (by decide) rfl (Nat.le_of_ble_eq_true rfl) ?_
  intro pp ee ss mm bw me cd ls hx hb hr hts hown hlocks hml hP hK hl
  have hl : lv_has ls 2 [(0, .ref pe), (1, .int p)] := hl
  refine lv_aload_n hx hb dX2_isHead_0 rfl (lv_at hl 0 rfl) ?_
  refine lv_iload_n hx hb dX2_isHead_1 rfl (lv_at hl 1 rfl) ?_
  refine rcV (As := [.int p]) (rest := []) (ci := 2) ⟨hx, hb, hml, hown, hts⟩ (kX2_isThere l D cI cZ pe hP_ aP np P p (by first | assumption | omega)) (cwV 1 hts gX2_isHead_X2_isThere rfl rfl rfl (by decide +kernel) ⟨Nat.le_of_ble_eq_true rfl, Nat.le_of_ble_eq_true rfl⟩) hK hP [0, 1, 2] rfl rfl rfl rfl rfl hl.1 rfl (Nat.le_of_ble_eq_true rfl) ⟨Nat.zero_le _, Nat.zero_le _⟩ dX2_isHead_2 ?_
  refine lb_eq (tgt := 21) hx hb dX2_isHead_5 (by decide) (fun c_5 => ?_) (fun c_5 => ?_)
  · skip
    refine lv_iconst (v := 0) hx hb dX2_isHead_21 (by decide) ?_
    exact rd_zret hx hb hr hlocks dX2_isHead_22 (by simp [bI, isHd, c_5])
  · skip
    refine lv_aload_n hx hb dX2_isHead_8 rfl (lv_at hl 0 rfl) ?_
    refine lv_iload_n hx hb dX2_isHead_9 rfl (lv_at hl 1 rfl) ?_
    refine rcV (As := [.int p]) (rest := []) (ci := 2) ⟨hx, hb, hml, hown, hts⟩ (kX2_holderOf l D cI cZ pe hP_ aP np P p (by first | assumption | omega)) (cwV 1 hts gX2_isHead_X2_holderOf rfl rfl rfl (by decide +kernel) ⟨Nat.le_of_ble_eq_true rfl, Nat.le_of_ble_eq_true rfl⟩) hK hP [0, 1, 2] rfl rfl rfl rfl rfl hl.1 rfl (Nat.le_of_ble_eq_true rfl) ⟨Nat.zero_le _, Nat.zero_le _⟩ dX2_isHead_10 ?_
    refine lv_iconst (v := (-1)) hx hb dX2_isHead_13 (by decide) ?_
    refine lv_icmp_ne (tgt := 21) hx hb dX2_isHead_14 (by decide) (fun c_14 => ?_) (fun c_14 => ?_)
    · skip
      refine lv_iconst (v := 0) hx hb dX2_isHead_21 (by decide) ?_
      exact rd_zret hx hb hr hlocks dX2_isHead_22 (by simp [bI, isHd, c_5, c_14])
    · skip
      refine lv_iconst (v := 1) hx hb dX2_isHead_17 (by decide) ?_
      refine lv_goto (tgt := 22) hx hb dX2_isHead_18 (by decide) ?_
      exact rd_zret hx hb hr hlocks dX2_isHead_22 (by simp [bI, isHd, c_5, c_14])
set_option maxHeartbeats 4000000 in
set_option maxRecDepth 100000 in
theorem kX2_headOf (l : Launch) (D : va_G) (cI cZ : ClassId) (pe hP_ aP np : Nat) (P : Nat → Nat → Int32) (p : Nat) (hnp : np ≤ 24) (hw : HP np (P 4)) (hp : p < np) : Met l yX2_headOf wsX2_headOf ({ frames := 2, cells := 0, slots := 0, locals := 44 } : Room) (RdP D [(cI, .int), (cZ, .boolean)] [.ref pe, .int (nI p)] [(pe, .inr (2, [.ref hP_])), (hP_, .inr (3, [.int (nI 24), .int (nI 6), .ref aP, .int (nI np)])), (aP, .inl (cI, 24 * 6, .inl (fl 6 P)))]) (QcRead (nI (hd (P 4) p))) 0 0 (fun _ => False) := by
  refine rd_of (cc := cX2_headOf) (maxL := 4) (ret := (some .int)) (by decide) rfl (Nat.le_of_ble_eq_true rfl) ?_
  intro pp ee ss mm bw me cd ls hx hb hr hts hown hlocks hml hP hK hl
  have hl : lv_has ls 4 [(0, .ref pe), (1, .int ((nI p)))] := hl
  have hf16 := hts (.fieldLink RX2 16 "OtherNames$People" "rows" "LOtherNames$Rows;") (by decide +kernel)
  have hin2 := (show ∀ w ∈ wsX20, w ∈ wsX2_headOf by decide +kernel)
  refine lv_iload_n hx hb dX2_headOf_0 rfl (lv_at hl 1 rfl) ?_
  refine lv_istore_n (lv' := [(2, .int ((nI p))), (0, .ref pe), (1, .int ((nI p)))]) hx hb dX2_headOf_1 rfl hl (by decide) rfl (fun ls hl => ?_)
  refine lv_iconst (v := 0) hx hb dX2_headOf_2 (by decide) ?_
  refine lv_istore_n (lv' := [(3, .int 0), (2, .int ((nI p))), (0, .ref pe), (1, .int ((nI p)))]) hx hb dX2_headOf_3 rfl hl (by decide) rfl (fun ls hl => ?_)
  have loop : ∀ (k : Nat) (i q : Nat) (ls : Array Slot), i ≤ 24 → q < np → hdF (24 - i) (P 4) q = hd (P 4) p → 24 < i + k → lv_has ls 4 [(0, .ref pe), (1, .int ((nI p))), (2, .int (nI q)), (3, .int (nI i))] → W pp l ee ({ frames := 2, cells := 0, slots := 0, locals := 44 } : Room) ss mm ([.ref pe, .int (nI p)] : List Value).toArray bw me cd ss.heap [] 0 0 (MQ bw (QcRead (nI (hd (P 4) p))) ([.ref pe, .int (nI p)] : List Value).toArray ss 0 0 (fun _ => False)) (F0 mm 4 ls []) := by
    intro k
    induction k with
    | zero => intro i q ls hi hq he hk; exact absurd hk (by omega)
    | succ k ih =>
      intro i q ls hi hq he hk hl
      refine lv_iload_n hx hb dX2_headOf_4 rfl (lv_at hl 3 rfl) ?_
      refine lv_bipush (v := 24) hx hb dX2_headOf_5 (by decide) ?_
      refine lv_icmp_ge (tgt := 39) hx hb dX2_headOf_7 (by decide) (fun c_7 => ?_) (fun c_7 => ?_)
      · skip
        have hi2 : i = 24 := Nat.le_antisymm hi (lit_T c_7 24 rfl (by omega) (by omega))
        refine lv_iload_n hx hb dX2_headOf_39 rfl (lv_at hl 2 rfl) ?_
        exact rd_iret hx hb hr hlocks dX2_headOf_40 (by rw [← he, hi2]; rfl)
      · skip
        have hi2 : i < 24 := lit_F c_7 24 rfl (by omega) (by omega)
        refine lv_aload_n hx hb dX2_headOf_10 rfl (lv_at hl 0 rfl) ?_
        refine va_get (D := D) (ci := 2) (v := .ref hP_) (C := RX2) (T := TX2) (N := 1) hx hb hts hin2 hown hK hP 0 rfl rfl 0 (by decide) hf16 (fun _ h9 => h9) rfl dX2_headOf_11 ?_
        refine lv_iload_n hx hb dX2_headOf_14 rfl (lv_at hl 2 rfl) ?_
        refine lv_iconst (v := 4) hx hb dX2_headOf_15 (by decide) ?_
        refine rcV (As := [.int (nI q), .int 4]) (rest := []) (ci := 3) ⟨hx, hb, hml, hown, hts⟩ (kX3_at l D cI cZ hP_ aP 24 6 np P (nI q) 4 (by first | assumption | omega)) (cwV 2 hts gX2_headOf_X3_at rfl rfl rfl (by decide +kernel) ⟨Nat.le_of_ble_eq_true rfl, Nat.le_of_ble_eq_true rfl⟩) hK hP [1, 2] rfl rfl rfl rfl rfl hl.1 rfl (Nat.le_of_ble_eq_true rfl) ⟨Nat.zero_le _, Nat.zero_le _⟩ dX2_headOf_16 ?_
        rw [show tat np 6 P (nI q) 4 = (P 4 q) from tat_nI (c := 4) (by omega) (by omega) hq (by omega)]
        refine lv_iconst (v := (-1)) hx hb dX2_headOf_19 (by decide) ?_
        refine lv_icmp_eq (tgt := 39) hx hb dX2_headOf_20 (by decide) (fun c_20 => ?_) (fun c_20 => ?_)
        · skip
          refine lv_iload_n hx hb dX2_headOf_39 rfl (lv_at hl 2 rfl) ?_
          exact rd_iret hx hb hr hlocks dX2_headOf_40 (by rw [← he, hdF_root c_20])
        · skip
          obtain ⟨q2, hq2, e2⟩ := (hw.1 q hq).resolve_left c_20
          refine lv_aload_n hx hb dX2_headOf_23 rfl (lv_at hl 0 rfl) ?_
          refine va_get (D := D) (ci := 2) (v := .ref hP_) (C := RX2) (T := TX2) (N := 1) hx hb hts hin2 hown hK hP 0 rfl rfl 0 (by decide) hf16 (fun _ h9 => h9) rfl dX2_headOf_24 ?_
          refine lv_iload_n hx hb dX2_headOf_27 rfl (lv_at hl 2 rfl) ?_
          refine lv_iconst (v := 4) hx hb dX2_headOf_28 (by decide) ?_
          refine rcV (As := [.int (nI q), .int 4]) (rest := []) (ci := 3) ⟨hx, hb, hml, hown, hts⟩ (kX3_at l D cI cZ hP_ aP 24 6 np P (nI q) 4 (by first | assumption | omega)) (cwV 2 hts gX2_headOf_X3_at rfl rfl rfl (by decide +kernel) ⟨Nat.le_of_ble_eq_true rfl, Nat.le_of_ble_eq_true rfl⟩) hK hP [1, 2] rfl rfl rfl rfl rfl hl.1 rfl (Nat.le_of_ble_eq_true rfl) ⟨Nat.zero_le _, Nat.zero_le _⟩ dX2_headOf_29 ?_
          rw [show tat np 6 P (nI q) 4 = nI q2 from (tat_nI (c := 4) (by omega) (by omega) hq (by omega)).trans e2]
          refine lv_istore_n (lv' := [(2, .int (nI q2)), (0, .ref pe), (1, .int ((nI p))), (3, .int (nI i))]) hx hb dX2_headOf_32 rfl hl (by decide) rfl (fun ls hl => ?_)
          refine lv_iinc (v := (nI i) + 1) (lv' := [(3, .int (((nI i) + 1))), (2, .int (nI q2)), (0, .ref pe), (1, .int ((nI p)))]) hx hb dX2_headOf_33 hl (k := 3) rfl rfl (by decide) rfl (fun ls hl => ?_)
          refine lv_goto (tgt := 4) hx hb dX2_headOf_36 (by decide) ?_
          rw [nI_1 i] at hl
          exact ih (i + 1) q2 ls (by omega) hq2 (by rw [← he, show 24 - i = (24 - (i + 1)) + 1 by omega, hdF_step e2 c_20 (by omega)]) (by omega) (lv_sub hl [2, 3, 1, 0] rfl)
  exact loop 25 0 p ls (by omega) hp rfl (by omega) (lv_sub hl [2, 3, 1, 0] rfl)
set_option maxHeartbeats 4000000 in
set_option maxRecDepth 100000 in
theorem kX2_areAlike (l : Launch) (D : va_G) (cI cZ : ClassId) (pe hP_ aP np : Nat) (P : Nat → Nat → Int32) (p : Int32) (q : Int32) (set : Int32) (hnp : np ≤ 24) : Met l yX2_areAlike wsX2_areAlike ({ frames := 3, cells := 0, slots := 0, locals := 66 } : Room) (RdP D [(cI, .int), (cZ, .boolean)] [.ref pe, .int p, .int q, .int set] [(pe, .inr (2, [.ref hP_])), (hP_, .inr (3, [.int (nI 24), .int (nI 6), .ref aP, .int (nI np)])), (aP, .inl (cI, 24 * 6, .inl (fl 6 P)))]) (QcRead (bI (alls (alB np P p q set) 4))) 0 0 (fun _ => False) := by
  refine rd_of (cc := cX2_areAlike) (maxL := 5) (ret := (some .boolean)) (by decide) rfl (Nat.le_of_ble_eq_true rfl) ?_
  intro pp ee ss mm bw me cd ls hx hb hr hts hown hlocks hml hP hK hl
  have hl : lv_has ls 5 [(0, .ref pe), (1, .int p), (2, .int q), (3, .int set)] := hl
  refine lv_iconst (v := 0) hx hb dX2_areAlike_0 (by decide) ?_
  refine lv_istore (lv' := [(4, .int 0), (0, .ref pe), (1, .int p), (2, .int q), (3, .int set)]) hx hb dX2_areAlike_1 hl (by decide) rfl (fun ls hl => ?_)
  have loop : ∀ (k : Nat) (i : Nat) (ls : Array Slot), i ≤ 4 → alls (alB np P p q set) i = true → 4 < i + k → lv_has ls 5 [(0, .ref pe), (1, .int p), (2, .int q), (3, .int set), (4, .int (nI i))] → W pp l ee ({ frames := 3, cells := 0, slots := 0, locals := 66 } : Room) ss mm ([.ref pe, .int p, .int q, .int set] : List Value).toArray bw me cd ss.heap [] 0 0 (MQ bw (QcRead (bI (alls (alB np P p q set) 4))) ([.ref pe, .int p, .int q, .int set] : List Value).toArray ss 0 0 (fun _ => False)) (F0 mm 3 ls []) := by
    intro k
    induction k with
    | zero => intro i ls hi he hk; exact absurd hk (by omega)
    | succ k ih =>
      intro i ls hi he hk hl
      refine lv_iload hx hb dX2_areAlike_3 (lv_at hl 4 rfl) ?_
      refine lv_iconst (v := 4) hx hb dX2_areAlike_5 (by decide) ?_
      refine lv_icmp_ge (tgt := 43) hx hb dX2_areAlike_6 (by decide) (fun c_6 => ?_) (fun c_6 => ?_)
      · skip
        have hi2 : i = 4 := Nat.le_antisymm hi (lit_T c_6 4 rfl (by omega) (by omega))
        refine lv_iconst (v := 1) hx hb dX2_areAlike_43 (by decide) ?_
        exact rd_zret hx hb hr hlocks dX2_areAlike_44 (by rw [hi2] at he; rw [he]; rfl)
      · skip
        have hi2 : i < 4 := lit_F c_6 4 rfl (by omega) (by omega)
        refine lv_iload_n hx hb dX2_areAlike_9 rfl (lv_at hl 3 rfl) ?_
        refine lv_iload hx hb dX2_areAlike_10 (lv_at hl 4 rfl) ?_
        refine rcS (As := [.int set, .int (nI i)]) (rest := []) ⟨hx, hb, hml, hown, hts⟩ (kX2_isAmong l D cI cZ set (nI i)) (va_cwS 2 hts gX2_areAlike_X2_isAmong rfl rfl rfl (by decide +kernel) ⟨Nat.le_of_ble_eq_true rfl, Nat.le_of_ble_eq_true rfl⟩) hK hP [] rfl rfl hl.1 rfl (Nat.le_of_ble_eq_true rfl) ⟨Nat.zero_le _, Nat.zero_le _⟩ dX2_areAlike_12 ?_
        refine lb_eq (tgt := 37) hx hb dX2_areAlike_15 (by decide) (fun c_15 => ?_) (fun c_15 => ?_)
        · skip
          refine lv_iinc (v := (nI i) + 1) (lv' := [(4, .int (((nI i) + 1))), (0, .ref pe), (1, .int p), (2, .int q), (3, .int set)]) hx hb dX2_areAlike_37 hl (k := 4) rfl rfl (by decide) rfl (fun ls hl => ?_)
          refine lv_goto (tgt := 3) hx hb dX2_areAlike_40 (by decide) ?_
          rw [nI_1 i] at hl
          exact ih (i + 1) ls (by omega) (by simp [alls, alB, he, c_6, c_15]) (by omega) (lv_sub hl [1, 2, 3, 4, 0] rfl)
        · skip
          refine lv_aload_n hx hb dX2_areAlike_18 rfl (lv_at hl 0 rfl) ?_
          refine lv_iload_n hx hb dX2_areAlike_19 rfl (lv_at hl 1 rfl) ?_
          refine lv_iload hx hb dX2_areAlike_20 (lv_at hl 4 rfl) ?_
          refine rcV (As := [.int p, .int (nI i)]) (rest := []) (ci := 2) ⟨hx, hb, hml, hown, hts⟩ (kX2_markOf l D cI cZ pe hP_ aP np P p (nI i) (by first | assumption | omega)) (cwV 2 hts gX2_areAlike_X2_markOf rfl rfl rfl (by decide +kernel) ⟨Nat.le_of_ble_eq_true rfl, Nat.le_of_ble_eq_true rfl⟩) hK hP [0, 1, 2] rfl rfl rfl rfl rfl hl.1 rfl (Nat.le_of_ble_eq_true rfl) ⟨Nat.zero_le _, Nat.zero_le _⟩ dX2_areAlike_22 ?_
          refine lv_aload_n hx hb dX2_areAlike_25 rfl (lv_at hl 0 rfl) ?_
          refine lv_iload_n hx hb dX2_areAlike_26 rfl (lv_at hl 2 rfl) ?_
          refine lv_iload hx hb dX2_areAlike_27 (lv_at hl 4 rfl) ?_
          refine rcV (As := [.int q, .int (nI i)]) (rest := [.int (mkOf np P p (nI i))]) (ci := 2) ⟨hx, hb, hml, hown, hts⟩ (kX2_markOf l D cI cZ pe hP_ aP np P q (nI i) (by first | assumption | omega)) (cwV 2 hts gX2_areAlike_X2_markOf rfl rfl rfl (by decide +kernel) ⟨Nat.le_of_ble_eq_true rfl, Nat.le_of_ble_eq_true rfl⟩) hK hP [0, 1, 2] rfl rfl rfl rfl rfl hl.1 rfl (Nat.le_of_ble_eq_true rfl) ⟨Nat.zero_le _, Nat.zero_le _⟩ dX2_areAlike_29 ?_
          refine lv_icmp_eq (tgt := 37) hx hb dX2_areAlike_32 (by decide) (fun c_32 => ?_) (fun c_32 => ?_)
          · skip
            refine lv_iinc (v := (nI i) + 1) (lv' := [(4, .int (((nI i) + 1))), (0, .ref pe), (1, .int p), (2, .int q), (3, .int set)]) hx hb dX2_areAlike_37 hl (k := 4) rfl rfl (by decide) rfl (fun ls hl => ?_)
            refine lv_goto (tgt := 3) hx hb dX2_areAlike_40 (by decide) ?_
            rw [nI_1 i] at hl
            exact ih (i + 1) ls (by omega) (by simp [alls, alB, he, c_6, c_15, c_32]) (by omega) (lv_sub hl [1, 2, 3, 4, 0] rfl)
          · skip
            refine lv_iconst (v := 0) hx hb dX2_areAlike_35 (by decide) ?_
            exact rd_zret hx hb hr hlocks dX2_areAlike_36 (by rw [alls_no (i := i) (by simp [alB, c_15, c_32]) hi2]; rfl)
  exact loop 5 0 ls (by omega) rfl (by omega) (lv_sub hl [1, 2, 3, 4, 0] rfl)
set_option maxHeartbeats 4000000 in
set_option maxRecDepth 100000 in
theorem kX2_groupSize (l : Launch) (D : va_G) (cI cZ : ClassId) (pe hP_ aP np : Nat) (P : Nat → Nat → Int32) (kn : Int32) (p : Int32) (set : Int32) (hnp : np ≤ 24) : Met l yX2_groupSize wsX2_groupSize ({ frames := 4, cells := 0, slots := 0, locals := 90 } : Room) (RdP D [(cI, .int), (cZ, .boolean)] [.ref pe, .int kn, .int p, .int set] [(pe, .inr (2, [.ref hP_])), (hP_, .inr (3, [.int (nI 24), .int (nI 6), .ref aP, .int (nI np)])), (aP, .inl (cI, 24 * 6, .inl (fl 6 P)))]) (QcRead (gsz np P kn p set)) 0 0 (fun _ => False) := by
  refine rd_of (cc := cX2_groupSize) (maxL := 6) (ret := (some .int)) (by decide) rfl (Nat.le_of_ble_eq_true rfl) ?_
  intro pp ee ss mm bw me cd ls hx hb hr hts hown hlocks hml hP hK hl
  have hl : lv_has ls 6 [(0, .ref pe), (1, .int kn), (2, .int p), (3, .int set)] := hl
  refine lv_iload_n hx hb dX2_groupSize_0 rfl (lv_at hl 1 rfl) ?_
  refine lv_iload_n hx hb dX2_groupSize_1 rfl (lv_at hl 2 rfl) ?_
  refine rcS (As := [.int kn, .int p]) (rest := []) ⟨hx, hb, hml, hown, hts⟩ (kX2_isAmong l D cI cZ kn p) (va_cwS 2 hts gX2_groupSize_X2_isAmong rfl rfl rfl (by decide +kernel) ⟨Nat.le_of_ble_eq_true rfl, Nat.le_of_ble_eq_true rfl⟩) hK hP [] rfl rfl hl.1 rfl (Nat.le_of_ble_eq_true rfl) ⟨Nat.zero_le _, Nat.zero_le _⟩ dX2_groupSize_2 ?_
  refine lb_ne (tgt := 10) hx hb dX2_groupSize_5 (by decide) (fun c_5 => ?_) (fun c_5 => ?_)
  · skip
    refine lv_iconst (v := 0) hx hb dX2_groupSize_10 (by decide) ?_
    refine lv_istore (lv' := [(4, .int 0), (0, .ref pe), (1, .int kn), (2, .int p), (3, .int set)]) hx hb dX2_groupSize_11 hl (by decide) rfl (fun ls hl => ?_)
    refine lv_iconst (v := 0) hx hb dX2_groupSize_13 (by decide) ?_
    refine lv_istore (lv' := [(5, .int 0), (4, .int 0), (0, .ref pe), (1, .int kn), (2, .int p), (3, .int set)]) hx hb dX2_groupSize_14 hl (by decide) rfl (fun ls hl => ?_)
    have loop : ∀ (k : Nat) (i : Nat) (ls : Array Slot), i ≤ 24 → 24 < i + k → lv_has ls 6 [(0, .ref pe), (1, .int kn), (2, .int p), (3, .int set), (4, .int (nI (ct (fun q => isAm kn (nI q) && alls (alB np P p (nI q) set) 4) i))), (5, .int (nI i))] → W pp l ee ({ frames := 4, cells := 0, slots := 0, locals := 90 } : Room) ss mm ([.ref pe, .int kn, .int p, .int set] : List Value).toArray bw me cd ss.heap [] 0 0 (MQ bw (QcRead (gsz np P kn p set)) ([.ref pe, .int kn, .int p, .int set] : List Value).toArray ss 0 0 (fun _ => False)) (F0 mm 16 ls []) := by
      intro k
      induction k with
      | zero => intro i ls hi hk; exact absurd hk (by omega)
      | succ k ih =>
        intro i ls hi hk hl
        refine lv_iload hx hb dX2_groupSize_16 (lv_at hl 5 rfl) ?_
        refine lv_bipush (v := 24) hx hb dX2_groupSize_18 (by decide) ?_
        refine lv_icmp_ge (tgt := 52) hx hb dX2_groupSize_20 (by decide) (fun c_20 => ?_) (fun c_20 => ?_)
        · skip
          have hi2 : i = 24 := Nat.le_antisymm hi (lit_T c_20 24 rfl (by omega) (by omega))
          refine lv_iload hx hb dX2_groupSize_52 (lv_at hl 4 rfl) ?_
          exact rd_iret hx hb hr hlocks dX2_groupSize_54 (by rw [hi2]; simp [gsz, c_5])
        · skip
          have hi2 : i < 24 := lit_F c_20 24 rfl (by omega) (by omega)
          refine lv_iload_n hx hb dX2_groupSize_23 rfl (lv_at hl 1 rfl) ?_
          refine lv_iload hx hb dX2_groupSize_24 (lv_at hl 5 rfl) ?_
          refine rcS (As := [.int kn, .int (nI i)]) (rest := []) ⟨hx, hb, hml, hown, hts⟩ (kX2_isAmong l D cI cZ kn (nI i)) (va_cwS 2 hts gX2_groupSize_X2_isAmong rfl rfl rfl (by decide +kernel) ⟨Nat.le_of_ble_eq_true rfl, Nat.le_of_ble_eq_true rfl⟩) hK hP [] rfl rfl hl.1 rfl (Nat.le_of_ble_eq_true rfl) ⟨Nat.zero_le _, Nat.zero_le _⟩ dX2_groupSize_26 ?_
          refine lb_eq (tgt := 46) hx hb dX2_groupSize_29 (by decide) (fun c_29 => ?_) (fun c_29 => ?_)
          · skip
            refine lv_iinc (v := (nI i) + 1) (lv' := [(5, .int (((nI i) + 1))), (0, .ref pe), (1, .int kn), (2, .int p), (3, .int set), (4, .int (nI (ct (fun q => isAm kn (nI q) && alls (alB np P p (nI q) set) 4) i)))]) hx hb dX2_groupSize_46 hl (k := 5) rfl rfl (by decide) rfl (fun ls hl => ?_)
            refine lv_goto (tgt := 16) hx hb dX2_groupSize_49 (by decide) ?_
            rw [nI_1 i] at hl
            rw [show nI (ct (fun q => isAm kn (nI q) && alls (alB np P p (nI q) set) 4) i) = nI (ct (fun q => isAm kn (nI q) && alls (alB np P p (nI q) set) 4) (i + 1)) by first | exact ct_yes (by simp [c_5, c_20, c_29]) | exact ct_no (by simp [c_5, c_20, c_29])] at hl
            exact ih (i + 1) ls (by omega) (by omega) (lv_sub hl [1, 2, 3, 4, 5, 0] rfl)
          · skip
            refine lv_aload_n hx hb dX2_groupSize_32 rfl (lv_at hl 0 rfl) ?_
            refine lv_iload_n hx hb dX2_groupSize_33 rfl (lv_at hl 2 rfl) ?_
            refine lv_iload hx hb dX2_groupSize_34 (lv_at hl 5 rfl) ?_
            refine lv_iload_n hx hb dX2_groupSize_36 rfl (lv_at hl 3 rfl) ?_
            refine rcV (As := [.int p, .int (nI i), .int set]) (rest := []) (ci := 2) ⟨hx, hb, hml, hown, hts⟩ (kX2_areAlike l D cI cZ pe hP_ aP np P p (nI i) set (by first | assumption | omega)) (cwV 3 hts gX2_groupSize_X2_areAlike rfl rfl rfl (by decide +kernel) ⟨Nat.le_of_ble_eq_true rfl, Nat.le_of_ble_eq_true rfl⟩) hK hP [0, 1, 2] rfl rfl rfl rfl rfl hl.1 rfl (Nat.le_of_ble_eq_true rfl) ⟨Nat.zero_le _, Nat.zero_le _⟩ dX2_groupSize_37 ?_
            refine lb_eq (tgt := 46) hx hb dX2_groupSize_40 (by decide) (fun c_40 => ?_) (fun c_40 => ?_)
            · skip
              refine lv_iinc (v := (nI i) + 1) (lv' := [(5, .int (((nI i) + 1))), (0, .ref pe), (1, .int kn), (2, .int p), (3, .int set), (4, .int (nI (ct (fun q => isAm kn (nI q) && alls (alB np P p (nI q) set) 4) i)))]) hx hb dX2_groupSize_46 hl (k := 5) rfl rfl (by decide) rfl (fun ls hl => ?_)
              refine lv_goto (tgt := 16) hx hb dX2_groupSize_49 (by decide) ?_
              rw [nI_1 i] at hl
              rw [show nI (ct (fun q => isAm kn (nI q) && alls (alB np P p (nI q) set) 4) i) = nI (ct (fun q => isAm kn (nI q) && alls (alB np P p (nI q) set) 4) (i + 1)) by first | exact ct_yes (by simp [c_5, c_20, c_29, c_40]) | exact ct_no (by simp [c_5, c_20, c_29, c_40])] at hl
              exact ih (i + 1) ls (by omega) (by omega) (lv_sub hl [1, 2, 3, 4, 5, 0] rfl)
            · skip
              refine lv_iinc (v := (nI (ct (fun q => isAm kn (nI q) && alls (alB np P p (nI q) set) 4) i)) + 1) (lv' := [(4, .int (((nI (ct (fun q => isAm kn (nI q) && alls (alB np P p (nI q) set) 4) i)) + 1))), (0, .ref pe), (1, .int kn), (2, .int p), (3, .int set), (5, .int (nI i))]) hx hb dX2_groupSize_43 hl (k := 4) rfl rfl (by decide) rfl (fun ls hl => ?_)
              refine lv_iinc (v := (nI i) + 1) (lv' := [(5, .int (((nI i) + 1))), (4, .int (((nI (ct (fun q => isAm kn (nI q) && alls (alB np P p (nI q) set) 4) i)) + 1))), (0, .ref pe), (1, .int kn), (2, .int p), (3, .int set)]) hx hb dX2_groupSize_46 hl (k := 5) rfl rfl (by decide) rfl (fun ls hl => ?_)
              refine lv_goto (tgt := 16) hx hb dX2_groupSize_49 (by decide) ?_
              rw [nI_1 i] at hl
              rw [show ((nI (ct (fun q => isAm kn (nI q) && alls (alB np P p (nI q) set) 4) i)) + 1) = nI (ct (fun q => isAm kn (nI q) && alls (alB np P p (nI q) set) 4) (i + 1)) by first | exact ct_yes (by simp [c_5, c_20, c_29, c_40]) | exact ct_no (by simp [c_5, c_20, c_29, c_40])] at hl
              exact ih (i + 1) ls (by omega) (by omega) (lv_sub hl [2, 3, 4, 5, 1, 0] rfl)
    exact loop 25 0 ls (by omega) (by omega) (lv_sub hl [2, 3, 4, 5, 1, 0] rfl)
  · skip
    refine lv_iconst (v := 0) hx hb dX2_groupSize_8 (by decide) ?_
    exact rd_iret hx hb hr hlocks dX2_groupSize_9 (by simp [gsz, c_5])
set_option maxHeartbeats 4000000 in
set_option maxRecDepth 100000 in
theorem kX2_countHaving (l : Launch) (D : va_G) (cI cZ : ClassId) (pe hP_ aP np : Nat) (P : Nat → Nat → Int32) (kn : Int32) (m : Int32) (n : Int32) (hnp : np ≤ 24) : Met l yX2_countHaving wsX2_countHaving ({ frames := 3, cells := 0, slots := 0, locals := 66 } : Room) (RdP D [(cI, .int), (cZ, .boolean)] [.ref pe, .int kn, .int m, .int n] [(pe, .inr (2, [.ref hP_])), (hP_, .inr (3, [.int (nI 24), .int (nI 6), .ref aP, .int (nI np)])), (aP, .inl (cI, 24 * 6, .inl (fl 6 P)))]) (QcRead (nI (ct (fun p => isAm kn (nI p) && decide (mkOf np P (nI p) m = n)) 24))) 0 0 (fun _ => False) := by
  refine rd_of (cc := cX2_countHaving) (maxL := 6) (ret := (some .int)) (by decide) rfl (Nat.le_of_ble_eq_true rfl) ?_
  intro pp ee ss mm bw me cd ls hx hb hr hts hown hlocks hml hP hK hl
  have hl : lv_has ls 6 [(0, .ref pe), (1, .int kn), (2, .int m), (3, .int n)] := hl
  refine lv_iconst (v := 0) hx hb dX2_countHaving_0 (by decide) ?_
  refine lv_istore (lv' := [(4, .int 0), (0, .ref pe), (1, .int kn), (2, .int m), (3, .int n)]) hx hb dX2_countHaving_1 hl (by decide) rfl (fun ls hl => ?_)
  refine lv_iconst (v := 0) hx hb dX2_countHaving_3 (by decide) ?_
  refine lv_istore (lv' := [(5, .int 0), (4, .int 0), (0, .ref pe), (1, .int kn), (2, .int m), (3, .int n)]) hx hb dX2_countHaving_4 hl (by decide) rfl (fun ls hl => ?_)
  have loop : ∀ (k : Nat) (i : Nat) (ls : Array Slot), i ≤ 24 → 24 < i + k → lv_has ls 6 [(0, .ref pe), (1, .int kn), (2, .int m), (3, .int n), (4, .int (nI (ct (fun p => isAm kn (nI p) && decide (mkOf np P (nI p) m = n)) i))), (5, .int (nI i))] → W pp l ee ({ frames := 3, cells := 0, slots := 0, locals := 66 } : Room) ss mm ([.ref pe, .int kn, .int m, .int n] : List Value).toArray bw me cd ss.heap [] 0 0 (MQ bw (QcRead (nI (ct (fun p => isAm kn (nI p) && decide (mkOf np P (nI p) m = n)) 24))) ([.ref pe, .int kn, .int m, .int n] : List Value).toArray ss 0 0 (fun _ => False)) (F0 mm 6 ls []) := by
    intro k
    induction k with
    | zero => intro i ls hi hk; exact absurd hk (by omega)
    | succ k ih =>
      intro i ls hi hk hl
      refine lv_iload hx hb dX2_countHaving_6 (lv_at hl 5 rfl) ?_
      refine lv_bipush (v := 24) hx hb dX2_countHaving_8 (by decide) ?_
      refine lv_icmp_ge (tgt := 42) hx hb dX2_countHaving_10 (by decide) (fun c_10 => ?_) (fun c_10 => ?_)
      · skip
        have hi2 : i = 24 := Nat.le_antisymm hi (lit_T c_10 24 rfl (by omega) (by omega))
        refine lv_iload hx hb dX2_countHaving_42 (lv_at hl 4 rfl) ?_
        exact rd_iret hx hb hr hlocks dX2_countHaving_44 (by rw [hi2])
      · skip
        have hi2 : i < 24 := lit_F c_10 24 rfl (by omega) (by omega)
        refine lv_iload_n hx hb dX2_countHaving_13 rfl (lv_at hl 1 rfl) ?_
        refine lv_iload hx hb dX2_countHaving_14 (lv_at hl 5 rfl) ?_
        refine rcS (As := [.int kn, .int (nI i)]) (rest := []) ⟨hx, hb, hml, hown, hts⟩ (kX2_isAmong l D cI cZ kn (nI i)) (va_cwS 2 hts gX2_countHaving_X2_isAmong rfl rfl rfl (by decide +kernel) ⟨Nat.le_of_ble_eq_true rfl, Nat.le_of_ble_eq_true rfl⟩) hK hP [] rfl rfl hl.1 rfl (Nat.le_of_ble_eq_true rfl) ⟨Nat.zero_le _, Nat.zero_le _⟩ dX2_countHaving_16 ?_
        refine lb_eq (tgt := 36) hx hb dX2_countHaving_19 (by decide) (fun c_19 => ?_) (fun c_19 => ?_)
        · skip
          refine lv_iinc (v := (nI i) + 1) (lv' := [(5, .int (((nI i) + 1))), (0, .ref pe), (1, .int kn), (2, .int m), (3, .int n), (4, .int (nI (ct (fun p => isAm kn (nI p) && decide (mkOf np P (nI p) m = n)) i)))]) hx hb dX2_countHaving_36 hl (k := 5) rfl rfl (by decide) rfl (fun ls hl => ?_)
          refine lv_goto (tgt := 6) hx hb dX2_countHaving_39 (by decide) ?_
          rw [nI_1 i] at hl
          rw [show nI (ct (fun p => isAm kn (nI p) && decide (mkOf np P (nI p) m = n)) i) = nI (ct (fun p => isAm kn (nI p) && decide (mkOf np P (nI p) m = n)) (i + 1)) by first | exact ct_yes (by simp [c_10, c_19]) | exact ct_no (by simp [c_10, c_19])] at hl
          exact ih (i + 1) ls (by omega) (by omega) (lv_sub hl [1, 2, 3, 4, 5, 0] rfl)
        · skip
          refine lv_aload_n hx hb dX2_countHaving_22 rfl (lv_at hl 0 rfl) ?_
          refine lv_iload hx hb dX2_countHaving_23 (lv_at hl 5 rfl) ?_
          refine lv_iload_n hx hb dX2_countHaving_25 rfl (lv_at hl 2 rfl) ?_
          refine rcV (As := [.int (nI i), .int m]) (rest := []) (ci := 2) ⟨hx, hb, hml, hown, hts⟩ (kX2_markOf l D cI cZ pe hP_ aP np P (nI i) m (by first | assumption | omega)) (cwV 2 hts gX2_countHaving_X2_markOf rfl rfl rfl (by decide +kernel) ⟨Nat.le_of_ble_eq_true rfl, Nat.le_of_ble_eq_true rfl⟩) hK hP [0, 1, 2] rfl rfl rfl rfl rfl hl.1 rfl (Nat.le_of_ble_eq_true rfl) ⟨Nat.zero_le _, Nat.zero_le _⟩ dX2_countHaving_26 ?_
          refine lv_iload_n hx hb dX2_countHaving_29 rfl (lv_at hl 3 rfl) ?_
          refine lv_icmp_ne (tgt := 36) hx hb dX2_countHaving_30 (by decide) (fun c_30 => ?_) (fun c_30 => ?_)
          · skip
            refine lv_iinc (v := (nI i) + 1) (lv' := [(5, .int (((nI i) + 1))), (0, .ref pe), (1, .int kn), (2, .int m), (3, .int n), (4, .int (nI (ct (fun p => isAm kn (nI p) && decide (mkOf np P (nI p) m = n)) i)))]) hx hb dX2_countHaving_36 hl (k := 5) rfl rfl (by decide) rfl (fun ls hl => ?_)
            refine lv_goto (tgt := 6) hx hb dX2_countHaving_39 (by decide) ?_
            rw [nI_1 i] at hl
            rw [show nI (ct (fun p => isAm kn (nI p) && decide (mkOf np P (nI p) m = n)) i) = nI (ct (fun p => isAm kn (nI p) && decide (mkOf np P (nI p) m = n)) (i + 1)) by first | exact ct_yes (by simp [c_10, c_19, c_30]) | exact ct_no (by simp [c_10, c_19, c_30])] at hl
            exact ih (i + 1) ls (by omega) (by omega) (lv_sub hl [1, 2, 3, 4, 5, 0] rfl)
          · skip
            refine lv_iinc (v := (nI (ct (fun p => isAm kn (nI p) && decide (mkOf np P (nI p) m = n)) i)) + 1) (lv' := [(4, .int (((nI (ct (fun p => isAm kn (nI p) && decide (mkOf np P (nI p) m = n)) i)) + 1))), (0, .ref pe), (1, .int kn), (2, .int m), (3, .int n), (5, .int (nI i))]) hx hb dX2_countHaving_33 hl (k := 4) rfl rfl (by decide) rfl (fun ls hl => ?_)
            refine lv_iinc (v := (nI i) + 1) (lv' := [(5, .int (((nI i) + 1))), (4, .int (((nI (ct (fun p => isAm kn (nI p) && decide (mkOf np P (nI p) m = n)) i)) + 1))), (0, .ref pe), (1, .int kn), (2, .int m), (3, .int n)]) hx hb dX2_countHaving_36 hl (k := 5) rfl rfl (by decide) rfl (fun ls hl => ?_)
            refine lv_goto (tgt := 6) hx hb dX2_countHaving_39 (by decide) ?_
            rw [nI_1 i] at hl
            rw [show ((nI (ct (fun p => isAm kn (nI p) && decide (mkOf np P (nI p) m = n)) i)) + 1) = nI (ct (fun p => isAm kn (nI p) && decide (mkOf np P (nI p) m = n)) (i + 1)) by first | exact ct_yes (by simp [c_10, c_19, c_30]) | exact ct_no (by simp [c_10, c_19, c_30])] at hl
            exact ih (i + 1) ls (by omega) (by omega) (lv_sub hl [2, 3, 4, 5, 1, 0] rfl)
  exact loop 25 0 ls (by omega) (by omega) (lv_sub hl [2, 3, 4, 5, 1, 0] rfl)
