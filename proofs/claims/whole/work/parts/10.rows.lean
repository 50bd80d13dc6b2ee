set_option maxHeartbeats 4000000 in
set_option maxRecDepth 100000 in
theorem kX3_size (l : Launch) (D : va_G) (cI cZ : ClassId) (h a mo w n : Nat) (C : Nat → Nat → Int32) (hz : n ≤ mo ∧ mo ≤ 200 ∧ w ≤ 6) : Met l yX3_size wsX3_size ({ frames := 0, cells := 0, slots := 0, locals := 0 } : Room) (RdP D [(cI, .int), (cZ, .boolean)] [.ref h] [(h, .inr (3, [.int (nI mo), .int (nI w), .ref a, .int (nI n)])), (a, .inl (cI, mo * w, .inl (fl w C)))]) (QcRead (nI n)) 0 0 (fun _ => False) := by
  refine rd_of (cc := cX3_size) (maxL := 1) (ret := (some .int)) (by decide) rfl (Nat.le_of_ble_eq_true rfl) ?_
  intro pp ee ss mm bw me cd ls hx hb hr hts hown hlocks hml hP hK hl
  have hl : lv_has ls 1 [(0, .ref h)] := hl
  have hf28 := hts (.fieldLink RX3 28 "OtherNames$Rows" "size" "I") (by decide +kernel)
  have hin3 := (show ∀ w ∈ wsX30, w ∈ wsX3_size by decide +kernel)
  refine lv_aload_n hx hb dX3_size_0 rfl (lv_at hl 0 rfl) ?_
  refine va_get (D := D) (ci := 3) (v := .int (nI n)) (C := RX3) (T := TX3) (N := 4) hx hb hts hin3 hown hK hP 0 rfl rfl 3 (by decide) hf28 (fun _ h9 => h9) rfl dX3_size_1 ?_
  exact rd_iret hx hb hr hlocks dX3_size_4 (by rfl)
set_option maxHeartbeats 4000000 in
set_option maxRecDepth 100000 in
theorem kX3_isFull (l : Launch) (D : va_G) (cI cZ : ClassId) (h a mo w n : Nat) (C : Nat → Nat → Int32) (hz : n ≤ mo ∧ mo ≤ 200 ∧ w ≤ 6) : Met l yX3_isFull wsX3_isFull ({ frames := 0, cells := 0, slots := 0, locals := 0 } : Room) (RdP D [(cI, .int), (cZ, .boolean)] [.ref h] [(h, .inr (3, [.int (nI mo), .int (nI w), .ref a, .int (nI n)])), (a, .inl (cI, mo * w, .inl (fl w C)))]) (QcRead (bI (decide (mo ≤ n)))) 0 0 (fun _ => False) := by
  refine rd_of (cc := cX3_isFull) (maxL := 1) (ret := (some .boolean)) (by decide) rfl (Nat.le_of_ble_eq_true rfl) ?_
  intro pp ee ss mm bw me cd ls hx hb hr hts hown hlocks hml hP hK hl
  have hl : lv_has ls 1 [(0, .ref h)] := hl
  have hf28 := hts (.fieldLink RX3 28 "OtherNames$Rows" "size" "I") (by decide +kernel)
  have hin3 := (show ∀ w ∈ wsX30, w ∈ wsX3_isFull by decide +kernel)
  have hf15 := hts (.fieldLink RX3 15 "OtherNames$Rows" "most" "I") (by decide +kernel)
  refine lv_aload_n hx hb dX3_isFull_0 rfl (lv_at hl 0 rfl) ?_
  refine va_get (D := D) (ci := 3) (v := .int (nI n)) (C := RX3) (T := TX3) (N := 4) hx hb hts hin3 hown hK hP 0 rfl rfl 3 (by decide) hf28 (fun _ h9 => h9) rfl dX3_isFull_1 ?_
  refine lv_aload_n hx hb dX3_isFull_4 rfl (lv_at hl 0 rfl) ?_
  refine va_get (D := D) (ci := 3) (v := .int (nI mo)) (C := RX3) (T := TX3) (N := 4) hx hb hts hin3 hown hK hP 0 rfl rfl 0 (by decide) hf15 (fun _ h9 => h9) rfl dX3_isFull_5 ?_
  refine lv_icmp_lt (tgt := 15) hx hb dX3_isFull_8 (by decide) (fun c_8 => ?_) (fun c_8 => ?_)
  · skip
    refine lv_iconst (v := 0) hx hb dX3_isFull_15 (by decide) ?_
    exact rd_zret hx hb hr hlocks dX3_isFull_16 (by rw [nI_ltI (by omega) (by omega)] at c_8; simp [bI]; omega)
  · skip
    refine lv_iconst (v := 1) hx hb dX3_isFull_11 (by decide) ?_
    refine lv_goto (tgt := 16) hx hb dX3_isFull_12 (by decide) ?_
    exact rd_zret hx hb hr hlocks dX3_isFull_16 (by rw [nI_ltI (by omega) (by omega)] at c_8; simp [bI]; omega)
set_option maxHeartbeats 4000000 in
set_option maxRecDepth 100000 in
theorem kX3_isThere (l : Launch) (D : va_G) (cI cZ : ClassId) (h a mo w n : Nat) (C : Nat → Nat → Int32) (r : Int32) (hz : n ≤ mo ∧ mo ≤ 200 ∧ w ≤ 6) : Met l yX3_isThere wsX3_isThere ({ frames := 0, cells := 0, slots := 0, locals := 0 } : Room) (RdP D [(cI, .int), (cZ, .boolean)] [.ref h, .int r] [(h, .inr (3, [.int (nI mo), .int (nI w), .ref a, .int (nI n)])), (a, .inl (cI, mo * w, .inl (fl w C)))]) (QcRead (bI (inR n r))) 0 0 (fun _ => False) := by
  refine rd_of (cc := cX3_isThere) (maxL := 2) (ret := (some .boolean)) (by decide) rfl (Nat.le_of_ble_eq_true rfl) ?_
  intro pp ee ss mm bw me cd ls hx hb hr hts hown hlocks hml hP hK hl
  have hl : lv_has ls 2 [(0, .ref h), (1, .int r)] := hl
  have hf28 := hts (.fieldLink RX3 28 "OtherNames$Rows" "size" "I") (by decide +kernel)
  have hin3 := (show ∀ w ∈ wsX30, w ∈ wsX3_isThere by decide +kernel)
  refine lv_iload_n hx hb dX3_isThere_0 rfl (lv_at hl 1 rfl) ?_
  refine lv_if_lt (tgt := 16) hx hb dX3_isThere_1 (by decide) (fun c_1 => ?_) (fun c_1 => ?_)
  · skip
    refine lv_iconst (v := 0) hx hb dX3_isThere_16 (by decide) ?_
    exact rd_zret hx hb hr hlocks dX3_isThere_17 (by simp [bI, inR, *])
  · skip
    refine lv_iload_n hx hb dX3_isThere_4 rfl (lv_at hl 1 rfl) ?_
    refine lv_aload_n hx hb dX3_isThere_5 rfl (lv_at hl 0 rfl) ?_
    refine va_get (D := D) (ci := 3) (v := .int (nI n)) (C := RX3) (T := TX3) (N := 4) hx hb hts hin3 hown hK hP 0 rfl rfl 3 (by decide) hf28 (fun _ h9 => h9) rfl dX3_isThere_6 ?_
    refine lv_icmp_ge (tgt := 16) hx hb dX3_isThere_9 (by decide) (fun c_9 => ?_) (fun c_9 => ?_)
    · skip
      refine lv_iconst (v := 0) hx hb dX3_isThere_16 (by decide) ?_
      exact rd_zret hx hb hr hlocks dX3_isThere_17 (by simp [bI, inR, *])
    · skip
      refine lv_iconst (v := 1) hx hb dX3_isThere_12 (by decide) ?_
      refine lv_goto (tgt := 17) hx hb dX3_isThere_13 (by decide) ?_
      exact rd_zret hx hb hr hlocks dX3_isThere_17 (by simp [bI, inR, *])
set_option maxHeartbeats 4000000 in
set_option maxRecDepth 100000 in
theorem kX3_hasCell (l : Launch) (D : va_G) (cI cZ : ClassId) (h a mo w n : Nat) (C : Nat → Nat → Int32) (r : Int32) (c : Int32) (hz : n ≤ mo ∧ mo ≤ 200 ∧ w ≤ 6) : Met l yX3_hasCell wsX3_hasCell ({ frames := 0, cells := 0, slots := 0, locals := 0 } : Room) (RdP D [(cI, .int), (cZ, .boolean)] [.ref h, .int r, .int c] [(h, .inr (3, [.int (nI mo), .int (nI w), .ref a, .int (nI n)])), (a, .inl (cI, mo * w, .inl (fl w C)))]) (QcRead (bI (inR n r && inR w c))) 0 0 (fun _ => False) := by
  refine rd_of (cc := cX3_hasCell) (maxL := 3) (ret := (some .boolean)) (by decide) rfl (Nat.le_of_ble_eq_true rfl) ?_
  intro pp ee ss mm bw me cd ls hx hb hr hts hown hlocks hml hP hK hl
  have hl : lv_has ls 3 [(0, .ref h), (1, .int r), (2, .int c)] := hl
  have hf28 := hts (.fieldLink RX3 28 "OtherNames$Rows" "size" "I") (by decide +kernel)
  have hin3 := (show ∀ w ∈ wsX30, w ∈ wsX3_hasCell by decide +kernel)
  have hf21 := hts (.fieldLink RX3 21 "OtherNames$Rows" "width" "I") (by decide +kernel)
  refine lv_iload_n hx hb dX3_hasCell_0 rfl (lv_at hl 1 rfl) ?_
  refine lv_if_lt (tgt := 28) hx hb dX3_hasCell_1 (by decide) (fun c_1 => ?_) (fun c_1 => ?_)
  · skip
    refine lv_iconst (v := 0) hx hb dX3_hasCell_28 (by decide) ?_
    exact rd_zret hx hb hr hlocks dX3_hasCell_29 (by simp [bI, inR, *])
  · skip
    refine lv_iload_n hx hb dX3_hasCell_4 rfl (lv_at hl 1 rfl) ?_
    refine lv_aload_n hx hb dX3_hasCell_5 rfl (lv_at hl 0 rfl) ?_
    refine va_get (D := D) (ci := 3) (v := .int (nI n)) (C := RX3) (T := TX3) (N := 4) hx hb hts hin3 hown hK hP 0 rfl rfl 3 (by decide) hf28 (fun _ h9 => h9) rfl dX3_hasCell_6 ?_
    refine lv_icmp_ge (tgt := 28) hx hb dX3_hasCell_9 (by decide) (fun c_9 => ?_) (fun c_9 => ?_)
    · skip
      refine lv_iconst (v := 0) hx hb dX3_hasCell_28 (by decide) ?_
      exact rd_zret hx hb hr hlocks dX3_hasCell_29 (by simp [bI, inR, *])
    · skip
      refine lv_iload_n hx hb dX3_hasCell_12 rfl (lv_at hl 2 rfl) ?_
      refine lv_if_lt (tgt := 28) hx hb dX3_hasCell_13 (by decide) (fun c_13 => ?_) (fun c_13 => ?_)
      · skip
        refine lv_iconst (v := 0) hx hb dX3_hasCell_28 (by decide) ?_
        exact rd_zret hx hb hr hlocks dX3_hasCell_29 (by simp [bI, inR, *])
      · skip
        refine lv_iload_n hx hb dX3_hasCell_16 rfl (lv_at hl 2 rfl) ?_
        refine lv_aload_n hx hb dX3_hasCell_17 rfl (lv_at hl 0 rfl) ?_
        refine va_get (D := D) (ci := 3) (v := .int (nI w)) (C := RX3) (T := TX3) (N := 4) hx hb hts hin3 hown hK hP 0 rfl rfl 1 (by decide) hf21 (fun _ h9 => h9) rfl dX3_hasCell_18 ?_
        refine lv_icmp_ge (tgt := 28) hx hb dX3_hasCell_21 (by decide) (fun c_21 => ?_) (fun c_21 => ?_)
        · skip
          refine lv_iconst (v := 0) hx hb dX3_hasCell_28 (by decide) ?_
          exact rd_zret hx hb hr hlocks dX3_hasCell_29 (by simp [bI, inR, *])
        · skip
          refine lv_iconst (v := 1) hx hb dX3_hasCell_24 (by decide) ?_
          refine lv_goto (tgt := 29) hx hb dX3_hasCell_25 (by decide) ?_
          exact rd_zret hx hb hr hlocks dX3_hasCell_29 (by simp [bI, inR, *])
set_option maxHeartbeats 4000000 in
set_option maxRecDepth 100000 in
theorem kX3_at (l : Launch) (D : va_G) (cI cZ : ClassId) (h a mo w n : Nat) (C : Nat → Nat → Int32) (r : Int32) (cx : Int32) (hz : n ≤ mo ∧ mo ≤ 200 ∧ w ≤ 6) : Met l yX3_at wsX3_at ({ frames := 1, cells := 0, slots := 0, locals := 22 } : Room) (RdP D [(cI, .int), (cZ, .boolean)] [.ref h, .int r, .int cx] [(h, .inr (3, [.int (nI mo), .int (nI w), .ref a, .int (nI n)])), (a, .inl (cI, mo * w, .inl (fl w C)))]) (QcRead (tat n w C r cx)) 0 0 (fun _ => False) := by
  refine rd_of (cc := cX3_at) (maxL := 3) (ret := (some .int)) (by decide) rfl (Nat.le_of_ble_eq_true rfl) ?_
  intro pp ee ss mm bw me cd ls hx hb hr hts hown hlocks hml hP hK hl
  have hl : lv_has ls 3 [(0, .ref h), (1, .int r), (2, .int cx)] := hl
  have hf24 := hts (.fieldLink RX3 24 "OtherNames$Rows" "cells" "[I") (by decide +kernel)
  have hin3 := (show ∀ w ∈ wsX30, w ∈ wsX3_at by decide +kernel)
  have hf21 := hts (.fieldLink RX3 21 "OtherNames$Rows" "width" "I") (by decide +kernel)
  have hbig : mo * w < 2 ^ 31 := Nat.lt_of_le_of_lt (Nat.mul_le_mul (show mo ≤ 200 by omega) (show w ≤ 6 by omega)) (by decide)
  refine lv_aload_n hx hb dX3_at_0 rfl (lv_at hl 0 rfl) ?_
  refine lv_iload_n hx hb dX3_at_1 rfl (lv_at hl 1 rfl) ?_
  refine lv_iload_n hx hb dX3_at_2 rfl (lv_at hl 2 rfl) ?_
  refine rcV (As := [.int r, .int cx]) (rest := []) (ci := 3) ⟨hx, hb, hml, hown, hts⟩ (kX3_hasCell l D cI cZ h a mo w n C r cx (by first | assumption | omega)) (cwV 2 hts gX3_at_X3_hasCell rfl rfl rfl (by decide +kernel) ⟨Nat.le_of_ble_eq_true rfl, Nat.le_of_ble_eq_true rfl⟩) hK hP [0, 1] rfl rfl rfl rfl rfl hl.1 rfl (Nat.le_of_ble_eq_true rfl) ⟨Nat.zero_le _, Nat.zero_le _⟩ dX3_at_3 ?_
  refine lb_eq (tgt := 25) hx hb dX3_at_6 (by decide) (fun c_6 => ?_) (fun c_6 => ?_)
  · skip
    refine lv_iconst (v := (-1)) hx hb dX3_at_25 (by decide) ?_
    exact rd_iret hx hb hr hlocks dX3_at_26 (by simp [tat, c_6])
  · skip
    have hi := cell_ix c_6 (by omega) (by omega)
    refine lv_aload_n hx hb dX3_at_9 rfl (lv_at hl 0 rfl) ?_
    refine va_get (D := D) (ci := 3) (v := .ref a) (C := RX3) (T := TX3) (N := 4) hx hb hts hin3 hown hK hP 0 rfl rfl 2 (by decide) hf24 (fun _ h9 => h9) rfl dX3_at_10 ?_
    refine lv_iload_n hx hb dX3_at_13 rfl (lv_at hl 1 rfl) ?_
    refine lv_aload_n hx hb dX3_at_14 rfl (lv_at hl 0 rfl) ?_
    refine va_get (D := D) (ci := 3) (v := .int (nI w)) (C := RX3) (T := TX3) (N := 4) hx hb hts hin3 hown hK hP 0 rfl rfl 1 (by decide) hf21 (fun _ h9 => h9) rfl dX3_at_15 ?_
    refine lv_imul hx hb dX3_at_18 ?_
    refine lv_iload_n hx hb dX3_at_19 rfl (lv_at hl 2 rfl) ?_
    refine lv_iadd hx hb dX3_at_20 ?_
    refine va_ialdN (D := D) (cl := vwCl) (cA := cI) (f := fl w C) hx hb hK hP 1 0 rfl rfl (r.toNatClampNeg * w + cx.toNatClampNeg) (hi.1) (cell_lt (by omega) hi.2.1 hi.2.2) (by first | decide | assumption) dX3_at_21 ?_
    refine lv_goto (tgt := 26) hx hb dX3_at_22 (by decide) ?_
    exact rd_iret hx hb hr hlocks dX3_at_26 (by rw [fl_at hi.2.2]; simp [tat, c_6])
set_option maxHeartbeats 4000000 in
set_option maxRecDepth 100000 in
theorem kX3_addRow (l : Launch) (D : va_G) (cI cZ : ClassId) (h a mo w n : Nat) (C : Nat → Nat → Int32) (hz : n ≤ mo ∧ mo ≤ 200 ∧ w ≤ 6) : Met l yX3_addRow wsX3_addRow ({ frames := 1, cells := 0, slots := 0, locals := 20 } : Room) (MuP D [(cI, .int), (cZ, .boolean)] [.ref h] [(h, .inr (3, [.int (nI mo), .int (nI w), .ref a, .int (nI n)])), (a, .inl (cI, mo * w, .inl (fl w C)))]) (QM D (some (.int (arow mo n))) [(h, .inr (3, [.int (nI mo), .int (nI w), .ref a, .int (nI n)])), (a, .inl (cI, mo * w, .inl (fl w C)))] [(h, .inr (3, [.int (nI mo), .int (nI w), .ref a, .int (nI (adn mo n))])), (a, .inl (cI, mo * w, .inl (fl w C)))]) 0 0 (adr [(h, .inr (3, [.int (nI mo), .int (nI w), .ref a, .int (nI n)])), (a, .inl (cI, mo * w, .inl (fl w C)))]) := by
  refine mu_of (cc := cX3_addRow) (maxL := 1) (ret := (some .int)) (by decide) rfl (Nat.le_of_ble_eq_true rfl) ?_
  intro pp ee ss mm bw me cd ls hx hb hr hts hown hlocks hml hK hl H locs hP hD hS
  have hl : lv_has ls 1 [(0, .ref h)] := hl
  have hf28 := hts (.fieldLink RX3 28 "OtherNames$Rows" "size" "I") (by decide +kernel)
  have hin3 := (show ∀ w ∈ wsX30, w ∈ wsX3_addRow by decide +kernel)
  refine lv_aload_n hx hb dX3_addRow_0 rfl (lv_at hl 0 rfl) ?_
  refine rcV (As := []) (rest := []) (ci := 3) ⟨hx, hb, hml, hown, hts⟩ (kX3_isFull l D cI cZ h a mo w n C (by first | assumption | omega)) (cwV 0 hts gX3_addRow_X3_isFull rfl rfl rfl (by decide +kernel) ⟨Nat.le_of_ble_eq_true rfl, Nat.le_of_ble_eq_true rfl⟩) hK hP [0, 1] rfl rfl rfl rfl rfl hl.1 rfl (Nat.le_of_ble_eq_true rfl) ⟨Nat.zero_le _, Nat.zero_le _⟩ dX3_addRow_1 ?_
  refine lb_eq (tgt := 9) hx hb dX3_addRow_4 (by decide) (fun c_4 => ?_) (fun c_4 => ?_)
  · skip
    have c_4 := of_decide_eq_false c_4
    refine lv_aload_n hx hb dX3_addRow_9 rfl (lv_at hl 0 rfl) ?_
    refine lv_dup hx hb dX3_addRow_10 rfl ?_
    refine va_get (D := D) (ci := 3) (v := .int (nI n)) (C := RX3) (T := TX3) (N := 4) hx hb hts hin3 hown hK hP 0 rfl rfl 3 (by decide) hf28 (fun _ h9 => h9) rfl dX3_addRow_11 ?_
    refine lv_iconst (v := 1) hx hb dX3_addRow_14 (by decide) ?_
    refine lv_iadd hx hb dX3_addRow_15 ?_
    refine va_put (D := D) (ci := 3) (v := .int (((nI n) + 1))) (ty := .int) (C := RX3) (T := TX3) (N := 4) hx hb hts hin3 tyX3 tyX3_ok nmX3 hown hK hP hD hS 0 rfl rfl 3 (by decide) hf28 (fun _ h9 => h9) rfl (by decide +kernel) rfl rfl (Nat.le_of_ble_eq_true rfl) dX3_addRow_16 (fun H locs hP hD hS => ?_)
    have hP : va_P D vwCl [(h, .inr (3, [.int (nI mo), .int (nI w), .ref a, .int (((nI n) + 1))])), (a, .inl (cI, mo * w, .inl (fl w C)))] H := hP
    have hD : va_D (adr _) [(h, .inr (3, [.int (nI mo), .int (nI w), .ref a, .int (((nI n) + 1))])), (a, .inl (cI, mo * w, .inl (fl w C)))] := hD
    refine lv_aload_n hx hb dX3_addRow_19 rfl (lv_at hl 0 rfl) ?_
    refine va_get (D := D) (ci := 3) (v := .int (((nI n) + 1))) (C := RX3) (T := TX3) (N := 4) hx hb hts hin3 hown hK hP 0 rfl rfl 3 (by decide) hf28 (fun _ h9 => h9) rfl dX3_addRow_20 ?_
    refine lv_iconst (v := 1) hx hb dX3_addRow_23 (by decide) ?_
    refine lv_isub hx hb dX3_addRow_24 ?_
    refine mu_iret hx hb hr hlocks hS dX3_addRow_25 ?_ ?_
    · rw [arow, if_neg c_4, ← nI_succ, nI_pred]
    have q0 : (nI (adn mo n)) = (((nI n) + 1)) := by rw [adn, if_neg c_4, nI_succ]
    rw [q0]
    exact hP
  · skip
    have c_4 := of_decide_eq_true c_4
    refine lv_iconst (v := (-1)) hx hb dX3_addRow_7 (by decide) ?_
    refine mu_iret hx hb hr hlocks hS dX3_addRow_8 ?_ ?_
    · rw [arow, if_pos c_4]
    have q0 : (nI (adn mo n)) = (nI n) := by rw [adn, if_pos c_4]
    rw [q0]
    exact hP
set_option maxHeartbeats 4000000 in
set_option maxRecDepth 100000 in
theorem kX3_put (l : Launch) (D : va_G) (cI cZ : ClassId) (h a mo w n : Nat) (C : Nat → Nat → Int32) (r : Int32) (cx : Int32) (v : Int32) (hz : n ≤ mo ∧ mo ≤ 200 ∧ w ≤ 6) : Met l yX3_put wsX3_put ({ frames := 1, cells := 0, slots := 0, locals := 22 } : Room) (MuP D [(cI, .int), (cZ, .boolean)] [.ref h, .int r, .int cx, .int v] [(h, .inr (3, [.int (nI mo), .int (nI w), .ref a, .int (nI n)])), (a, .inl (cI, mo * w, .inl (fl w C)))]) (QM D none [(h, .inr (3, [.int (nI mo), .int (nI w), .ref a, .int (nI n)])), (a, .inl (cI, mo * w, .inl (fl w C)))] [(h, .inr (3, [.int (nI mo), .int (nI w), .ref a, .int (nI n)])), (a, .inl (cI, mo * w, .inl (fl w (tput n w C r cx v))))]) 0 0 (adr [(h, .inr (3, [.int (nI mo), .int (nI w), .ref a, .int (nI n)])), (a, .inl (cI, mo * w, .inl (fl w C)))]) := by
  refine mu_of (cc := cX3_put) (maxL := 4) (ret := none) (by decide) rfl (Nat.le_of_ble_eq_true rfl) ?_
  intro pp ee ss mm bw me cd ls hx hb hr hts hown hlocks hml hK hl H locs hP hD hS
  have hl : lv_has ls 4 [(0, .ref h), (1, .int r), (2, .int cx), (3, .int v)] := hl
  have hf24 := hts (.fieldLink RX3 24 "OtherNames$Rows" "cells" "[I") (by decide +kernel)
  have hin3 := (show ∀ w ∈ wsX30, w ∈ wsX3_put by decide +kernel)
  have hf21 := hts (.fieldLink RX3 21 "OtherNames$Rows" "width" "I") (by decide +kernel)
  have hbig : mo * w < 2 ^ 31 := Nat.lt_of_le_of_lt (Nat.mul_le_mul (show mo ≤ 200 by omega) (show w ≤ 6 by omega)) (by decide)
  refine lv_aload_n hx hb dX3_put_0 rfl (lv_at hl 0 rfl) ?_
  refine lv_iload_n hx hb dX3_put_1 rfl (lv_at hl 1 rfl) ?_
  refine lv_iload_n hx hb dX3_put_2 rfl (lv_at hl 2 rfl) ?_
  refine rcV (As := [.int r, .int cx]) (rest := []) (ci := 3) ⟨hx, hb, hml, hown, hts⟩ (kX3_hasCell l D cI cZ h a mo w n C r cx (by first | assumption | omega)) (cwV 2 hts gX3_put_X3_hasCell rfl rfl rfl (by decide +kernel) ⟨Nat.le_of_ble_eq_true rfl, Nat.le_of_ble_eq_true rfl⟩) hK hP [0, 1] rfl rfl rfl rfl rfl hl.1 rfl (Nat.le_of_ble_eq_true rfl) ⟨Nat.zero_le _, Nat.zero_le _⟩ dX3_put_3 ?_
  refine lb_eq (tgt := 23) hx hb dX3_put_6 (by decide) (fun c_6 => ?_) (fun c_6 => ?_)
  · skip
    refine mu_vret hx hb hr hlocks hS dX3_put_23 ?_
    have q0 : (fl w (tput n w C r cx v)) = (fl w C) := by simp [tput, c_6]
    rw [q0]
    exact hP
  · skip
    have hi := cell_ix c_6 (by omega) (by omega)
    refine lv_aload_n hx hb dX3_put_9 rfl (lv_at hl 0 rfl) ?_
    refine va_get (D := D) (ci := 3) (v := .ref a) (C := RX3) (T := TX3) (N := 4) hx hb hts hin3 hown hK hP 0 rfl rfl 2 (by decide) hf24 (fun _ h9 => h9) rfl dX3_put_10 ?_
    refine lv_iload_n hx hb dX3_put_13 rfl (lv_at hl 1 rfl) ?_
    refine lv_aload_n hx hb dX3_put_14 rfl (lv_at hl 0 rfl) ?_
    refine va_get (D := D) (ci := 3) (v := .int (nI w)) (C := RX3) (T := TX3) (N := 4) hx hb hts hin3 hown hK hP 0 rfl rfl 1 (by decide) hf21 (fun _ h9 => h9) rfl dX3_put_15 ?_
    refine lv_imul hx hb dX3_put_18 ?_
    refine lv_iload_n hx hb dX3_put_19 rfl (lv_at hl 2 rfl) ?_
    refine lv_iadd hx hb dX3_put_20 ?_
    refine lv_iload_n hx hb dX3_put_21 rfl (lv_at hl 3 rfl) ?_
    refine va_iastN (D := D) (cl := vwCl) (cA := cI) (f := fl w C) (x := v) hx hb hK hP hD hS 1 0 rfl rfl (r.toNatClampNeg * w + cx.toNatClampNeg) (hi.1) (cell_lt (by omega) hi.2.1 hi.2.2) (by first | decide | assumption) dX3_put_22 (fun H locs hP hD hS => ?_)
    have hP : va_P D vwCl [(h, .inr (3, [.int (nI mo), .int (nI w), .ref a, .int (nI n)])), (a, .inl (cI, mo * w, .inl (upd (fl w C) (r.toNatClampNeg * w + cx.toNatClampNeg) v)))] H := hP
    have hD : va_D (adr _) [(h, .inr (3, [.int (nI mo), .int (nI w), .ref a, .int (nI n)])), (a, .inl (cI, mo * w, .inl (upd (fl w C) (r.toNatClampNeg * w + cx.toNatClampNeg) v)))] := hD
    refine mu_vret hx hb hr hlocks hS dX3_put_23 ?_
    have q0 : (fl w (tput n w C r cx v)) = (upd (fl w C) (r.toNatClampNeg * w + cx.toNatClampNeg) v) := by rw [show tput n w C r cx v = up2 C cx.toNatClampNeg r.toNatClampNeg v by simp [tput, c_6]]; exact fl_up hi.2.2
    rw [q0]
    exact hP
