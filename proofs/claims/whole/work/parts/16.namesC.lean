set_option maxHeartbeats 4000000 in
set_option maxRecDepth 100000 in
theorem kX1_size (l : Launch) (D : va_G) (cI cZ : ClassId) (na hN aN nn : Nat) (N : Nat → Nat → Int32) (pe hP_ aP np : Nat) (P : Nat → Nat → Int32) (hnn : nn ≤ 200) (hnp : np ≤ 24) : Met l yX1_size wsX1_size ({ frames := 1, cells := 0, slots := 0, locals := 20 } : Room) (RdP D [(cI, .int), (cZ, .boolean)] [.ref na] [(na, .inr (1, [.ref hN, .ref pe])), (hN, .inr (3, [.int (nI 200), .int (nI 5), .ref aN, .int (nI nn)])), (aN, .inl (cI, 200 * 5, .inl (fl 5 N))), (pe, .inr (2, [.ref hP_])), (hP_, .inr (3, [.int (nI 24), .int (nI 6), .ref aP, .int (nI np)])), (aP, .inl (cI, 24 * 6, .inl (fl 6 P)))]) (QcRead (nI nn)) 0 0 (fun _ => False) := by
  refine rd_of (cc := cX1_size) (maxL := 1) (ret := (some .int)) (by decide) rfl (Nat.le_of_ble_eq_true rfl) ?_
  intro pp ee ss mm bw me cd ls hx hb hr hts hown hlocks hml hP hK hl
  have hl : lv_has ls 1 [(0, .ref na)] := hl
  have hf16 := hts (.fieldLink RX1 16 "OtherNames$Names" "rows" "LOtherNames$Rows;") (by decide +kernel)
  have hin1 := (show ∀ w ∈ wsX10, w ∈ wsX1_size by decide +kernel)
  refine lv_aload_n hx hb dX1_size_0 rfl (lv_at hl 0 rfl) ?_
  refine va_get (D := D) (ci := 1) (v := .ref hN) (C := RX1) (T := TX1) (N := 2) hx hb hts hin1 hown hK hP 0 rfl rfl 0 (by decide) hf16 (fun _ h9 => h9) rfl dX1_size_1 ?_
  refine rcV (As := []) (rest := []) (ci := 3) ⟨hx, hb, hml, hown, hts⟩ (kX3_size l D cI cZ hN aN 200 5 nn N (by first | assumption | omega)) (cwV 0 hts gX1_size_X3_size rfl rfl rfl (by decide +kernel) ⟨Nat.le_of_ble_eq_true rfl, Nat.le_of_ble_eq_true rfl⟩) hK hP [1, 2] rfl rfl rfl rfl rfl hl.1 rfl (Nat.le_of_ble_eq_true rfl) ⟨Nat.zero_le _, Nat.zero_le _⟩ dX1_size_4 ?_
  exact rd_iret hx hb hr hlocks dX1_size_7 (by rfl)
set_option maxHeartbeats 4000000 in
set_option maxRecDepth 100000 in
theorem kX1_cell (l : Launch) (D : va_G) (cI cZ : ClassId) (na hN aN nn : Nat) (N : Nat → Nat → Int32) (pe hP_ aP np : Nat) (P : Nat → Nat → Int32) (r : Int32) (cx : Int32) (hnn : nn ≤ 200) (hnp : np ≤ 24) : Met l yX1_cell wsX1_cell ({ frames := 2, cells := 0, slots := 0, locals := 44 } : Room) (RdP D [(cI, .int), (cZ, .boolean)] [.ref na, .int r, .int cx] [(na, .inr (1, [.ref hN, .ref pe])), (hN, .inr (3, [.int (nI 200), .int (nI 5), .ref aN, .int (nI nn)])), (aN, .inl (cI, 200 * 5, .inl (fl 5 N))), (pe, .inr (2, [.ref hP_])), (hP_, .inr (3, [.int (nI 24), .int (nI 6), .ref aP, .int (nI np)])), (aP, .inl (cI, 24 * 6, .inl (fl 6 P)))]) (QcRead (tat nn 5 N r cx)) 0 0 (fun _ => False) := by
  refine rd_of (cc := cX1_cell) (maxL := 3) (ret := (some .int)) (by decide) rfl (Nat.le_of_ble_eq_true rfl) ?_
  intro pp ee ss mm bw me cd ls hx hb hr hts hown hlocks hml hP hK hl
  have hl : lv_has ls 3 [(0, .ref na), (1, .int r), (2, .int cx)] := hl
  have hf16 := hts (.fieldLink RX1 16 "OtherNames$Names" "rows" "LOtherNames$Rows;") (by decide +kernel)
  have hin1 := (show ∀ w ∈ wsX10, w ∈ wsX1_cell by decide +kernel)
  refine lv_aload_n hx hb dX1_cell_0 rfl (lv_at hl 0 rfl) ?_
  refine va_get (D := D) (ci := 1) (v := .ref hN) (C := RX1) (T := TX1) (N := 2) hx hb hts hin1 hown hK hP 0 rfl rfl 0 (by decide) hf16 (fun _ h9 => h9) rfl dX1_cell_1 ?_
  refine lv_iload_n hx hb dX1_cell_4 rfl (lv_at hl 1 rfl) ?_
  refine lv_iload_n hx hb dX1_cell_5 rfl (lv_at hl 2 rfl) ?_
  refine rcV (As := [.int r, .int cx]) (rest := []) (ci := 3) ⟨hx, hb, hml, hown, hts⟩ (kX3_at l D cI cZ hN aN 200 5 nn N r cx (by first | assumption | omega)) (cwV 2 hts gX1_cell_X3_at rfl rfl rfl (by decide +kernel) ⟨Nat.le_of_ble_eq_true rfl, Nat.le_of_ble_eq_true rfl⟩) hK hP [1, 2] rfl rfl rfl rfl rfl hl.1 rfl (Nat.le_of_ble_eq_true rfl) ⟨Nat.zero_le _, Nat.zero_le _⟩ dX1_cell_6 ?_
  exact rd_iret hx hb hr hlocks dX1_cell_9 (by rfl)
set_option maxHeartbeats 4000000 in
set_option maxRecDepth 100000 in
theorem kX1_nameAt (l : Launch) (D : va_G) (cI cZ : ClassId) (na hN aN nn : Nat) (N : Nat → Nat → Int32) (pe hP_ aP np : Nat) (P : Nat → Nat → Int32) (r : Int32) (hnn : nn ≤ 200) (hnp : np ≤ 24) : Met l yX1_nameAt wsX1_nameAt ({ frames := 2, cells := 0, slots := 0, locals := 44 } : Room) (RdP D [(cI, .int), (cZ, .boolean)] [.ref na, .int r] [(na, .inr (1, [.ref hN, .ref pe])), (hN, .inr (3, [.int (nI 200), .int (nI 5), .ref aN, .int (nI nn)])), (aN, .inl (cI, 200 * 5, .inl (fl 5 N))), (pe, .inr (2, [.ref hP_])), (hP_, .inr (3, [.int (nI 24), .int (nI 6), .ref aP, .int (nI np)])), (aP, .inl (cI, 24 * 6, .inl (fl 6 P)))]) (QcRead (tat nn 5 N r 1)) 0 0 (fun _ => False) := by
  refine rd_of (cc := cX1_nameAt) (maxL := 2) (ret := (some .int)) (by decide) rfl (Nat.le_of_ble_eq_true rfl) ?_
  intro pp ee ss mm bw me cd ls hx hb hr hts hown hlocks hml hP hK hl
  have hl : lv_has ls 2 [(0, .ref na), (1, .int r)] := hl
  have hf16 := hts (.fieldLink RX1 16 "OtherNames$Names" "rows" "LOtherNames$Rows;") (by decide +kernel)
  have hin1 := (show ∀ w ∈ wsX10, w ∈ wsX1_nameAt by decide +kernel)
  refine lv_aload_n hx hb dX1_nameAt_0 rfl (lv_at hl 0 rfl) ?_
  refine va_get (D := D) (ci := 1) (v := .ref hN) (C := RX1) (T := TX1) (N := 2) hx hb hts hin1 hown hK hP 0 rfl rfl 0 (by decide) hf16 (fun _ h9 => h9) rfl dX1_nameAt_1 ?_
  refine lv_iload_n hx hb dX1_nameAt_4 rfl (lv_at hl 1 rfl) ?_
  refine lv_iconst (v := 1) hx hb dX1_nameAt_5 (by decide) ?_
  refine rcV (As := [.int r, .int 1]) (rest := []) (ci := 3) ⟨hx, hb, hml, hown, hts⟩ (kX3_at l D cI cZ hN aN 200 5 nn N r 1 (by first | assumption | omega)) (cwV 2 hts gX1_nameAt_X3_at rfl rfl rfl (by decide +kernel) ⟨Nat.le_of_ble_eq_true rfl, Nat.le_of_ble_eq_true rfl⟩) hK hP [1, 2] rfl rfl rfl rfl rfl hl.1 rfl (Nat.le_of_ble_eq_true rfl) ⟨Nat.zero_le _, Nat.zero_le _⟩ dX1_nameAt_6 ?_
  exact rd_iret hx hb hr hlocks dX1_nameAt_9 (by rfl)
set_option maxHeartbeats 4000000 in
set_option maxRecDepth 100000 in
theorem kX1_ownerAt (l : Launch) (D : va_G) (cI cZ : ClassId) (na hN aN nn : Nat) (N : Nat → Nat → Int32) (pe hP_ aP np : Nat) (P : Nat → Nat → Int32) (r : Int32) (hnn : nn ≤ 200) (hnp : np ≤ 24) : Met l yX1_ownerAt wsX1_ownerAt ({ frames := 2, cells := 0, slots := 0, locals := 44 } : Room) (RdP D [(cI, .int), (cZ, .boolean)] [.ref na, .int r] [(na, .inr (1, [.ref hN, .ref pe])), (hN, .inr (3, [.int (nI 200), .int (nI 5), .ref aN, .int (nI nn)])), (aN, .inl (cI, 200 * 5, .inl (fl 5 N))), (pe, .inr (2, [.ref hP_])), (hP_, .inr (3, [.int (nI 24), .int (nI 6), .ref aP, .int (nI np)])), (aP, .inl (cI, 24 * 6, .inl (fl 6 P)))]) (QcRead (tat nn 5 N r 2)) 0 0 (fun _ => False) := by
  refine rd_of (cc := cX1_ownerAt) (maxL := 2) (ret := (some .int)) (by decide) rfl (Nat.le_of_ble_eq_true rfl) ?_
  intro pp ee ss mm bw me cd ls hx hb hr hts hown hlocks hml hP hK hl
  have hl : lv_has ls 2 [(0, .ref na), (1, .int r)] := hl
  have hf16 := hts (.fieldLink RX1 16 "OtherNames$Names" "rows" "LOtherNames$Rows;") (by decide +kernel)
  have hin1 := (show ∀ w ∈ wsX10, w ∈ wsX1_ownerAt by decide +kernel)
  refine lv_aload_n hx hb dX1_ownerAt_0 rfl (lv_at hl 0 rfl) ?_
  refine va_get (D := D) (ci := 1) (v := .ref hN) (C := RX1) (T := TX1) (N := 2) hx hb hts hin1 hown hK hP 0 rfl rfl 0 (by decide) hf16 (fun _ h9 => h9) rfl dX1_ownerAt_1 ?_
  refine lv_iload_n hx hb dX1_ownerAt_4 rfl (lv_at hl 1 rfl) ?_
  refine lv_iconst (v := 2) hx hb dX1_ownerAt_5 (by decide) ?_
  refine rcV (As := [.int r, .int 2]) (rest := []) (ci := 3) ⟨hx, hb, hml, hown, hts⟩ (kX3_at l D cI cZ hN aN 200 5 nn N r 2 (by first | assumption | omega)) (cwV 2 hts gX1_ownerAt_X3_at rfl rfl rfl (by decide +kernel) ⟨Nat.le_of_ble_eq_true rfl, Nat.le_of_ble_eq_true rfl⟩) hK hP [1, 2] rfl rfl rfl rfl rfl hl.1 rfl (Nat.le_of_ble_eq_true rfl) ⟨Nat.zero_le _, Nat.zero_le _⟩ dX1_ownerAt_6 ?_
  exact rd_iret hx hb hr hlocks dX1_ownerAt_9 (by rfl)
set_option maxHeartbeats 4000000 in
set_option maxRecDepth 100000 in
theorem kX1_spanNumberAt (l : Launch) (D : va_G) (cI cZ : ClassId) (na hN aN nn : Nat) (N : Nat → Nat → Int32) (pe hP_ aP np : Nat) (P : Nat → Nat → Int32) (r : Int32) (hnn : nn ≤ 200) (hnp : np ≤ 24) : Met l yX1_spanNumberAt wsX1_spanNumberAt ({ frames := 2, cells := 0, slots := 0, locals := 44 } : Room) (RdP D [(cI, .int), (cZ, .boolean)] [.ref na, .int r] [(na, .inr (1, [.ref hN, .ref pe])), (hN, .inr (3, [.int (nI 200), .int (nI 5), .ref aN, .int (nI nn)])), (aN, .inl (cI, 200 * 5, .inl (fl 5 N))), (pe, .inr (2, [.ref hP_])), (hP_, .inr (3, [.int (nI 24), .int (nI 6), .ref aP, .int (nI np)])), (aP, .inl (cI, 24 * 6, .inl (fl 6 P)))]) (QcRead (tat nn 5 N r 4)) 0 0 (fun _ => False) := by
  refine rd_of (cc := cX1_spanNumberAt) (maxL := 2) (ret := (some .int)) (by decide) rfl (Nat.le_of_ble_eq_true rfl) ?_
  intro pp ee ss mm bw me cd ls hx hb hr hts hown hlocks hml hP hK hl
  have hl : lv_has ls 2 [(0, .ref na), (1, .int r)] := hl
  have hf16 := hts (.fieldLink RX1 16 "OtherNames$Names" "rows" "LOtherNames$Rows;") (by decide +kernel)
  have hin1 := (show ∀ w ∈ wsX10, w ∈ wsX1_spanNumberAt by decide +kernel)
  refine lv_aload_n hx hb dX1_spanNumberAt_0 rfl (lv_at hl 0 rfl) ?_
  refine va_get (D := D) (ci := 1) (v := .ref hN) (C := RX1) (T := TX1) (N := 2) hx hb hts hin1 hown hK hP 0 rfl rfl 0 (by decide) hf16 (fun _ h9 => h9) rfl dX1_spanNumberAt_1 ?_
  refine lv_iload_n hx hb dX1_spanNumberAt_4 rfl (lv_at hl 1 rfl) ?_
  refine lv_iconst (v := 4) hx hb dX1_spanNumberAt_5 (by decide) ?_
  refine rcV (As := [.int r, .int 4]) (rest := []) (ci := 3) ⟨hx, hb, hml, hown, hts⟩ (kX3_at l D cI cZ hN aN 200 5 nn N r 4 (by first | assumption | omega)) (cwV 2 hts gX1_spanNumberAt_X3_at rfl rfl rfl (by decide +kernel) ⟨Nat.le_of_ble_eq_true rfl, Nat.le_of_ble_eq_true rfl⟩) hK hP [1, 2] rfl rfl rfl rfl rfl hl.1 rfl (Nat.le_of_ble_eq_true rfl) ⟨Nat.zero_le _, Nat.zero_le _⟩ dX1_spanNumberAt_6 ?_
  exact rd_iret hx hb hr hlocks dX1_spanNumberAt_9 (by rfl)
set_option maxHeartbeats 4000000 in
set_option maxRecDepth 100000 in
theorem kX1_add (l : Launch) (D : va_G) (cI cZ : ClassId) (na hN aN nn : Nat) (N : Nat → Nat → Int32) (pe hP_ aP np : Nat) (P : Nat → Nat → Int32) (a : Int32) (b : Int32) (c : Int32) (d : Int32) (e : Int32) (hnn : nn ≤ 200) (hnp : np ≤ 24) : Met l yX1_add wsX1_add ({ frames := 2, cells := 0, slots := 0, locals := 45 } : Room) (MuP D [(cI, .int), (cZ, .boolean)] [.ref na, .int a, .int b, .int c, .int d, .int e] [(na, .inr (1, [.ref hN, .ref pe])), (hN, .inr (3, [.int (nI 200), .int (nI 5), .ref aN, .int (nI nn)])), (aN, .inl (cI, 200 * 5, .inl (fl 5 N))), (pe, .inr (2, [.ref hP_])), (hP_, .inr (3, [.int (nI 24), .int (nI 6), .ref aP, .int (nI np)])), (aP, .inl (cI, 24 * 6, .inl (fl 6 P)))]) (QM D (some (.int (arow 200 nn))) [(na, .inr (1, [.ref hN, .ref pe])), (hN, .inr (3, [.int (nI 200), .int (nI 5), .ref aN, .int (nI nn)])), (aN, .inl (cI, 200 * 5, .inl (fl 5 N))), (pe, .inr (2, [.ref hP_])), (hP_, .inr (3, [.int (nI 24), .int (nI 6), .ref aP, .int (nI np)])), (aP, .inl (cI, 24 * 6, .inl (fl 6 P)))] [(na, .inr (1, [.ref hN, .ref pe])), (hN, .inr (3, [.int (nI 200), .int (nI 5), .ref aN, .int (nI (adn 200 nn))])), (aN, .inl (cI, 200 * 5, .inl (fl 5 (naddT nn N a b c d e)))), (pe, .inr (2, [.ref hP_])), (hP_, .inr (3, [.int (nI 24), .int (nI 6), .ref aP, .int (nI np)])), (aP, .inl (cI, 24 * 6, .inl (fl 6 P)))]) 0 0 (adr [(na, .inr (1, [.ref hN, .ref pe])), (hN, .inr (3, [.int (nI 200), .int (nI 5), .ref aN, .int (nI nn)])), (aN, .inl (cI, 200 * 5, .inl (fl 5 N))), (pe, .inr (2, [.ref hP_])), (hP_, .inr (3, [.int (nI 24), .int (nI 6), .ref aP, .int (nI np)])), (aP, .inl (cI, 24 * 6, .inl (fl 6 P)))]) := by
  refine mu_of (cc := cX1_add) (maxL := 7) (ret := (some .int)) (by decide) rfl (Nat.le_of_ble_eq_true rfl) ?_
  intro pp ee ss mm bw me cd ls hx hb hr hts hown hlocks hml hK hl H locs hP hD hS
  have hl : lv_has ls 7 [(0, .ref na), (1, .int a), (2, .int b), (3, .int c), (4, .int d), (5, .int e)] := hl
  have hf16 := hts (.fieldLink RX1 16 "OtherNames$Names" "rows" "LOtherNames$Rows;") (by decide +kernel)
  have hin1 := (show ∀ w ∈ wsX10, w ∈ wsX1_add by decide +kernel)
  refine lv_aload_n hx hb dX1_add_0 rfl (lv_at hl 0 rfl) ?_
  refine va_get (D := D) (ci := 1) (v := .ref hN) (C := RX1) (T := TX1) (N := 2) hx hb hts hin1 hown hK hP 0 rfl rfl 0 (by decide) hf16 (fun _ h9 => h9) rfl dX1_add_1 ?_
  refine mcV (As := []) (rest := []) (ci := 3) (wn := [(na, .inr (1, [.ref hN, .ref pe])), (hN, .inr (3, [.int (nI 200), .int (nI 5), .ref aN, .int (nI (adn 200 nn))])), (aN, .inl (cI, 200 * 5, .inl (fl 5 N))), (pe, .inr (2, [.ref hP_])), (hP_, .inr (3, [.int (nI 24), .int (nI 6), .ref aP, .int (nI np)])), (aP, .inl (cI, 24 * 6, .inl (fl 6 P)))]) ⟨hx, hb, hml, hown, hts⟩ (kX3_addRow l D cI cZ hN aN 200 5 nn N (by first | assumption | omega)) (cwV 0 hts gX1_add_X3_addRow rfl rfl rfl (by decide +kernel) ⟨Nat.le_of_ble_eq_true rfl, Nat.le_of_ble_eq_true rfl⟩) hK hP hD hS [1, 2] rfl rfl rfl rfl rfl rfl rfl rfl rfl hl.1 rfl (Nat.le_of_ble_eq_true rfl) ⟨Nat.zero_le _, Nat.zero_le _⟩ dX1_add_4 (fun H locs hP hD hS => ?_)
  refine W.eq (g2 := F0 mm 7 ls (.int (arow 200 nn) :: [])) rfl ?_
  refine lv_istore (lv' := [(6, .int (arow 200 nn)), (0, .ref na), (1, .int a), (2, .int b), (3, .int c), (4, .int d), (5, .int e)]) hx hb dX1_add_7 hl (by decide) rfl (fun ls hl => ?_)
  refine lv_aload_n hx hb dX1_add_9 rfl (lv_at hl 1 rfl) ?_
  refine va_get (D := D) (ci := 1) (v := .ref hN) (C := RX1) (T := TX1) (N := 2) hx hb hts hin1 hown hK hP 0 rfl rfl 0 (by decide) hf16 (fun _ h9 => h9) rfl dX1_add_10 ?_
  refine lv_iload hx hb dX1_add_13 (lv_at hl 0 rfl) ?_
  refine lv_iconst (v := 0) hx hb dX1_add_15 (by decide) ?_
  refine lv_iload_n hx hb dX1_add_16 rfl (lv_at hl 2 rfl) ?_
  refine mcV (As := [.int (arow 200 nn), .int 0, .int a]) (rest := []) (ci := 3) (wn := [(na, .inr (1, [.ref hN, .ref pe])), (hN, .inr (3, [.int (nI 200), .int (nI 5), .ref aN, .int (nI (adn 200 nn))])), (aN, .inl (cI, 200 * 5, .inl (fl 5 (tput (adn 200 nn) 5 N (arow 200 nn) 0 a)))), (pe, .inr (2, [.ref hP_])), (hP_, .inr (3, [.int (nI 24), .int (nI 6), .ref aP, .int (nI np)])), (aP, .inl (cI, 24 * 6, .inl (fl 6 P)))]) ⟨hx, hb, hml, hown, hts⟩ (kX3_put l D cI cZ hN aN 200 5 (adn 200 nn) N (arow 200 nn) 0 a (by have := adn_le hnn; omega)) (cwV 3 hts gX1_add_X3_put rfl rfl rfl (by decide +kernel) ⟨Nat.le_of_ble_eq_true rfl, Nat.le_of_ble_eq_true rfl⟩) hK hP hD hS [1, 2] rfl rfl rfl rfl rfl rfl rfl rfl rfl hl.1 rfl (Nat.le_of_ble_eq_true rfl) ⟨Nat.zero_le _, Nat.zero_le _⟩ dX1_add_17 (fun H locs hP hD hS => ?_)
  refine W.eq (g2 := F0 mm 20 ls []) rfl ?_
  refine lv_aload_n hx hb dX1_add_20 rfl (lv_at hl 1 rfl) ?_
  refine va_get (D := D) (ci := 1) (v := .ref hN) (C := RX1) (T := TX1) (N := 2) hx hb hts hin1 hown hK hP 0 rfl rfl 0 (by decide) hf16 (fun _ h9 => h9) rfl dX1_add_21 ?_
  refine lv_iload hx hb dX1_add_24 (lv_at hl 0 rfl) ?_
  refine lv_iconst (v := 1) hx hb dX1_add_26 (by decide) ?_
  refine lv_iload_n hx hb dX1_add_27 rfl (lv_at hl 3 rfl) ?_
  refine mcV (As := [.int (arow 200 nn), .int 1, .int b]) (rest := []) (ci := 3) (wn := [(na, .inr (1, [.ref hN, .ref pe])), (hN, .inr (3, [.int (nI 200), .int (nI 5), .ref aN, .int (nI (adn 200 nn))])), (aN, .inl (cI, 200 * 5, .inl (fl 5 (tput (adn 200 nn) 5 (tput (adn 200 nn) 5 N (arow 200 nn) 0 a) (arow 200 nn) 1 b)))), (pe, .inr (2, [.ref hP_])), (hP_, .inr (3, [.int (nI 24), .int (nI 6), .ref aP, .int (nI np)])), (aP, .inl (cI, 24 * 6, .inl (fl 6 P)))]) ⟨hx, hb, hml, hown, hts⟩ (kX3_put l D cI cZ hN aN 200 5 (adn 200 nn) (tput (adn 200 nn) 5 N (arow 200 nn) 0 a) (arow 200 nn) 1 b (by have := adn_le hnn; omega)) (cwV 3 hts gX1_add_X3_put rfl rfl rfl (by decide +kernel) ⟨Nat.le_of_ble_eq_true rfl, Nat.le_of_ble_eq_true rfl⟩) hK hP hD hS [1, 2] rfl rfl rfl rfl rfl rfl rfl rfl rfl hl.1 rfl (Nat.le_of_ble_eq_true rfl) ⟨Nat.zero_le _, Nat.zero_le _⟩ dX1_add_28 (fun H locs hP hD hS => ?_)
  refine W.eq (g2 := F0 mm 31 ls []) rfl ?_
  refine lv_aload_n hx hb dX1_add_31 rfl (lv_at hl 1 rfl) ?_
  refine va_get (D := D) (ci := 1) (v := .ref hN) (C := RX1) (T := TX1) (N := 2) hx hb hts hin1 hown hK hP 0 rfl rfl 0 (by decide) hf16 (fun _ h9 => h9) rfl dX1_add_32 ?_
  refine lv_iload hx hb dX1_add_35 (lv_at hl 0 rfl) ?_
  refine lv_iconst (v := 2) hx hb dX1_add_37 (by decide) ?_
  refine lv_iload_n hx hb dX1_add_38 rfl (lv_at hl 4 rfl) ?_
  refine mcV (As := [.int (arow 200 nn), .int 2, .int c]) (rest := []) (ci := 3) (wn := [(na, .inr (1, [.ref hN, .ref pe])), (hN, .inr (3, [.int (nI 200), .int (nI 5), .ref aN, .int (nI (adn 200 nn))])), (aN, .inl (cI, 200 * 5, .inl (fl 5 (tput (adn 200 nn) 5 (tput (adn 200 nn) 5 (tput (adn 200 nn) 5 N (arow 200 nn) 0 a) (arow 200 nn) 1 b) (arow 200 nn) 2 c)))), (pe, .inr (2, [.ref hP_])), (hP_, .inr (3, [.int (nI 24), .int (nI 6), .ref aP, .int (nI np)])), (aP, .inl (cI, 24 * 6, .inl (fl 6 P)))]) ⟨hx, hb, hml, hown, hts⟩ (kX3_put l D cI cZ hN aN 200 5 (adn 200 nn) (tput (adn 200 nn) 5 (tput (adn 200 nn) 5 N (arow 200 nn) 0 a) (arow 200 nn) 1 b) (arow 200 nn) 2 c (by have := adn_le hnn; omega)) (cwV 3 hts gX1_add_X3_put rfl rfl rfl (by decide +kernel) ⟨Nat.le_of_ble_eq_true rfl, Nat.le_of_ble_eq_true rfl⟩) hK hP hD hS [1, 2] rfl rfl rfl rfl rfl rfl rfl rfl rfl hl.1 rfl (Nat.le_of_ble_eq_true rfl) ⟨Nat.zero_le _, Nat.zero_le _⟩ dX1_add_39 (fun H locs hP hD hS => ?_)
  refine W.eq (g2 := F0 mm 42 ls []) rfl ?_
  refine lv_aload_n hx hb dX1_add_42 rfl (lv_at hl 1 rfl) ?_
  refine va_get (D := D) (ci := 1) (v := .ref hN) (C := RX1) (T := TX1) (N := 2) hx hb hts hin1 hown hK hP 0 rfl rfl 0 (by decide) hf16 (fun _ h9 => h9) rfl dX1_add_43 ?_
  refine lv_iload hx hb dX1_add_46 (lv_at hl 0 rfl) ?_
  refine lv_iconst (v := 3) hx hb dX1_add_48 (by decide) ?_
  refine lv_iload hx hb dX1_add_49 (lv_at hl 5 rfl) ?_
  refine mcV (As := [.int (arow 200 nn), .int 3, .int d]) (rest := []) (ci := 3) (wn := [(na, .inr (1, [.ref hN, .ref pe])), (hN, .inr (3, [.int (nI 200), .int (nI 5), .ref aN, .int (nI (adn 200 nn))])), (aN, .inl (cI, 200 * 5, .inl (fl 5 (tput (adn 200 nn) 5 (tput (adn 200 nn) 5 (tput (adn 200 nn) 5 (tput (adn 200 nn) 5 N (arow 200 nn) 0 a) (arow 200 nn) 1 b) (arow 200 nn) 2 c) (arow 200 nn) 3 d)))), (pe, .inr (2, [.ref hP_])), (hP_, .inr (3, [.int (nI 24), .int (nI 6), .ref aP, .int (nI np)])), (aP, .inl (cI, 24 * 6, .inl (fl 6 P)))]) ⟨hx, hb, hml, hown, hts⟩ (kX3_put l D cI cZ hN aN 200 5 (adn 200 nn) (tput (adn 200 nn) 5 (tput (adn 200 nn) 5 (tput (adn 200 nn) 5 N (arow 200 nn) 0 a) (arow 200 nn) 1 b) (arow 200 nn) 2 c) (arow 200 nn) 3 d (by have := adn_le hnn; omega)) (cwV 3 hts gX1_add_X3_put rfl rfl rfl (by decide +kernel) ⟨Nat.le_of_ble_eq_true rfl, Nat.le_of_ble_eq_true rfl⟩) hK hP hD hS [1, 2] rfl rfl rfl rfl rfl rfl rfl rfl rfl hl.1 rfl (Nat.le_of_ble_eq_true rfl) ⟨Nat.zero_le _, Nat.zero_le _⟩ dX1_add_51 (fun H locs hP hD hS => ?_)
  refine W.eq (g2 := F0 mm 54 ls []) rfl ?_
  refine lv_aload_n hx hb dX1_add_54 rfl (lv_at hl 1 rfl) ?_
  refine va_get (D := D) (ci := 1) (v := .ref hN) (C := RX1) (T := TX1) (N := 2) hx hb hts hin1 hown hK hP 0 rfl rfl 0 (by decide) hf16 (fun _ h9 => h9) rfl dX1_add_55 ?_
  refine lv_iload hx hb dX1_add_58 (lv_at hl 0 rfl) ?_
  refine lv_iconst (v := 4) hx hb dX1_add_60 (by decide) ?_
  refine lv_iload hx hb dX1_add_61 (lv_at hl 6 rfl) ?_
  refine mcV (As := [.int (arow 200 nn), .int 4, .int e]) (rest := []) (ci := 3) (wn := [(na, .inr (1, [.ref hN, .ref pe])), (hN, .inr (3, [.int (nI 200), .int (nI 5), .ref aN, .int (nI (adn 200 nn))])), (aN, .inl (cI, 200 * 5, .inl (fl 5 (tput (adn 200 nn) 5 (tput (adn 200 nn) 5 (tput (adn 200 nn) 5 (tput (adn 200 nn) 5 (tput (adn 200 nn) 5 N (arow 200 nn) 0 a) (arow 200 nn) 1 b) (arow 200 nn) 2 c) (arow 200 nn) 3 d) (arow 200 nn) 4 e)))), (pe, .inr (2, [.ref hP_])), (hP_, .inr (3, [.int (nI 24), .int (nI 6), .ref aP, .int (nI np)])), (aP, .inl (cI, 24 * 6, .inl (fl 6 P)))]) ⟨hx, hb, hml, hown, hts⟩ (kX3_put l D cI cZ hN aN 200 5 (adn 200 nn) (tput (adn 200 nn) 5 (tput (adn 200 nn) 5 (tput (adn 200 nn) 5 (tput (adn 200 nn) 5 N (arow 200 nn) 0 a) (arow 200 nn) 1 b) (arow 200 nn) 2 c) (arow 200 nn) 3 d) (arow 200 nn) 4 e (by have := adn_le hnn; omega)) (cwV 3 hts gX1_add_X3_put rfl rfl rfl (by decide +kernel) ⟨Nat.le_of_ble_eq_true rfl, Nat.le_of_ble_eq_true rfl⟩) hK hP hD hS [1, 2] rfl rfl rfl rfl rfl rfl rfl rfl rfl hl.1 rfl (Nat.le_of_ble_eq_true rfl) ⟨Nat.zero_le _, Nat.zero_le _⟩ dX1_add_63 (fun H locs hP hD hS => ?_)
  refine W.eq (g2 := F0 mm 66 ls []) rfl ?_
  refine lv_iload hx hb dX1_add_66 (lv_at hl 0 rfl) ?_
  refine mu_iret hx hb hr hlocks hS dX1_add_68 ?_ ?_
  · rfl
  have q0 : (fl 5 (naddT nn N a b c d e)) = (fl 5 (tput (adn 200 nn) 5 (tput (adn 200 nn) 5 (tput (adn 200 nn) 5 (tput (adn 200 nn) 5 (tput (adn 200 nn) 5 N (arow 200 nn) 0 a) (arow 200 nn) 1 b) (arow 200 nn) 2 c) (arow 200 nn) 3 d) (arow 200 nn) 4 e)) := by rfl
  rw [q0]
  exact hP
set_option maxHeartbeats 4000000 in
set_option maxRecDepth 100000 in
theorem kX1_find (l : Launch) (D : va_G) (cI cZ : ClassId) (na hN aN nn : Nat) (N : Nat → Nat → Int32) (pe hP_ aP np : Nat) (P : Nat → Nat → Int32) (h : Int32) (nm : Int32) (hnn : nn ≤ 200) (hnp : np ≤ 24) : Met l yX1_find wsX1_find ({ frames := 3, cells := 0, slots := 0, locals := 65 } : Room) (RdP D [(cI, .int), (cZ, .boolean)] [.ref na, .int h, .int nm] [(na, .inr (1, [.ref hN, .ref pe])), (hN, .inr (3, [.int (nI 200), .int (nI 5), .ref aN, .int (nI nn)])), (aN, .inl (cI, 200 * 5, .inl (fl 5 N))), (pe, .inr (2, [.ref hP_])), (hP_, .inr (3, [.int (nI 24), .int (nI 6), .ref aP, .int (nI np)])), (aP, .inl (cI, 24 * 6, .inl (fl 6 P)))]) (QcRead (fsI (fdB N h nm) nn)) 0 0 (fun _ => False) := by
  refine rd_of (cc := cX1_find) (maxL := 4) (ret := (some .int)) (by decide) rfl (Nat.le_of_ble_eq_true rfl) ?_
  intro pp ee ss mm bw me cd ls hx hb hr hts hown hlocks hml hP hK hl
  have hl : lv_has ls 4 [(0, .ref na), (1, .int h), (2, .int nm)] := hl
  have hf16 := hts (.fieldLink RX1 16 "OtherNames$Names" "rows" "LOtherNames$Rows;") (by decide +kernel)
  have hin1 := (show ∀ w ∈ wsX10, w ∈ wsX1_find by decide +kernel)
  refine lv_iconst (v := 0) hx hb dX1_find_0 (by decide) ?_
  refine lv_istore_n (lv' := [(3, .int 0), (0, .ref na), (1, .int h), (2, .int nm)]) hx hb dX1_find_1 rfl hl (by decide) rfl (fun ls hl => ?_)
  have loop : ∀ (k : Nat) (i : Nat) (ls : Array Slot), i ≤ nn → (∀ j, j < i → fdB N h nm j = false) → nn < i + k → lv_has ls 4 [(0, .ref na), (1, .int h), (2, .int nm), (3, .int (nI i))] → W pp l ee ({ frames := 3, cells := 0, slots := 0, locals := 65 } : Room) ss mm ([.ref na, .int h, .int nm] : List Value).toArray bw me cd ss.heap [] 0 0 (MQ bw (QcRead (fsI (fdB N h nm) nn)) ([.ref na, .int h, .int nm] : List Value).toArray ss 0 0 (fun _ => False)) (F0 mm 2 ls []) := by
    intro k
    induction k with
    | zero => intro i ls hi hno hk; exact absurd hk (by omega)
    | succ k ih =>
      intro i ls hi hno hk hl
      refine lv_iload_n hx hb dX1_find_2 rfl (lv_at hl 3 rfl) ?_
      refine lv_aload_n hx hb dX1_find_3 rfl (lv_at hl 0 rfl) ?_
      refine va_get (D := D) (ci := 1) (v := .ref hN) (C := RX1) (T := TX1) (N := 2) hx hb hts hin1 hown hK hP 0 rfl rfl 0 (by decide) hf16 (fun _ h9 => h9) rfl dX1_find_4 ?_
      refine rcV (As := []) (rest := [.int (nI i)]) (ci := 3) ⟨hx, hb, hml, hown, hts⟩ (kX3_size l D cI cZ hN aN 200 5 nn N (by first | assumption | omega)) (cwV 0 hts gX1_find_X3_size rfl rfl rfl (by decide +kernel) ⟨Nat.le_of_ble_eq_true rfl, Nat.le_of_ble_eq_true rfl⟩) hK hP [1, 2] rfl rfl rfl rfl rfl hl.1 rfl (Nat.le_of_ble_eq_true rfl) ⟨Nat.zero_le _, Nat.zero_le _⟩ dX1_find_7 ?_
      refine lv_icmp_ge (tgt := 43) hx hb dX1_find_10 (by decide) (fun c_10 => ?_) (fun c_10 => ?_)
      · skip
        have hi2 : i = nn := Nat.le_antisymm hi (lit_T c_10 nn rfl (by omega) (by omega))
        refine lv_iconst (v := (-1)) hx hb dX1_find_43 (by decide) ?_
        exact rd_iret hx hb hr hlocks dX1_find_44 (by rw [hi2] at hno; rw [fsI_none hno])
      · skip
        have hi2 : i < nn := lit_F c_10 nn rfl (by omega) (by omega)
        refine lv_aload_n hx hb dX1_find_13 rfl (lv_at hl 0 rfl) ?_
        refine va_get (D := D) (ci := 1) (v := .ref hN) (C := RX1) (T := TX1) (N := 2) hx hb hts hin1 hown hK hP 0 rfl rfl 0 (by decide) hf16 (fun _ h9 => h9) rfl dX1_find_14 ?_
        refine lv_iload_n hx hb dX1_find_17 rfl (lv_at hl 3 rfl) ?_
        refine lv_iconst (v := 0) hx hb dX1_find_18 (by decide) ?_
        refine rcV (As := [.int (nI i), .int 0]) (rest := []) (ci := 3) ⟨hx, hb, hml, hown, hts⟩ (kX3_at l D cI cZ hN aN 200 5 nn N (nI i) 0 (by first | assumption | omega)) (cwV 2 hts gX1_find_X3_at rfl rfl rfl (by decide +kernel) ⟨Nat.le_of_ble_eq_true rfl, Nat.le_of_ble_eq_true rfl⟩) hK hP [1, 2] rfl rfl rfl rfl rfl hl.1 rfl (Nat.le_of_ble_eq_true rfl) ⟨Nat.zero_le _, Nat.zero_le _⟩ dX1_find_19 ?_
        rw [show tat nn 5 N (nI i) 0 = (N 0 i) from tat_nI (c := 0) (by omega) (by omega) hi2 (by omega)]
        refine lv_iload_n hx hb dX1_find_22 rfl (lv_at hl 1 rfl) ?_
        refine lv_icmp_ne (tgt := 37) hx hb dX1_find_23 (by decide) (fun c_23 => ?_) (fun c_23 => ?_)
        · skip
          refine lv_iinc (v := (nI i) + 1) (lv' := [(3, .int (((nI i) + 1))), (0, .ref na), (1, .int h), (2, .int nm)]) hx hb dX1_find_37 hl (k := 3) rfl rfl (by decide) rfl (fun ls hl => ?_)
          refine lv_goto (tgt := 2) hx hb dX1_find_40 (by decide) ?_
          rw [nI_1 i] at hl
          exact ih (i + 1) ls (by omega) (noS hno (by simp [fdB, c_10, c_23])) (by omega) (lv_sub hl [1, 2, 3, 0] rfl)
        · skip
          refine lv_aload_n hx hb dX1_find_26 rfl (lv_at hl 0 rfl) ?_
          refine lv_iload_n hx hb dX1_find_27 rfl (lv_at hl 3 rfl) ?_
          refine rcV (As := [.int (nI i)]) (rest := []) (ci := 1) ⟨hx, hb, hml, hown, hts⟩ (kX1_nameAt l D cI cZ na hN aN nn N pe hP_ aP np P (nI i) (by first | assumption | omega) (by first | assumption | omega)) (cwV 1 hts gX1_find_X1_nameAt rfl rfl rfl (by decide +kernel) ⟨Nat.le_of_ble_eq_true rfl, Nat.le_of_ble_eq_true rfl⟩) hK hP [0, 1, 2, 3, 4, 5] rfl rfl rfl rfl rfl hl.1 rfl (Nat.le_of_ble_eq_true rfl) ⟨Nat.zero_le _, Nat.zero_le _⟩ dX1_find_28 ?_
          rw [show tat nn 5 N (nI i) 1 = (N 1 i) from tat_nI (c := 1) (by omega) (by omega) hi2 (by omega)]
          refine lv_iload_n hx hb dX1_find_31 rfl (lv_at hl 2 rfl) ?_
          refine lv_icmp_ne (tgt := 37) hx hb dX1_find_32 (by decide) (fun c_32 => ?_) (fun c_32 => ?_)
          · skip
            refine lv_iinc (v := (nI i) + 1) (lv' := [(3, .int (((nI i) + 1))), (0, .ref na), (1, .int h), (2, .int nm)]) hx hb dX1_find_37 hl (k := 3) rfl rfl (by decide) rfl (fun ls hl => ?_)
            refine lv_goto (tgt := 2) hx hb dX1_find_40 (by decide) ?_
            rw [nI_1 i] at hl
            exact ih (i + 1) ls (by omega) (noS hno (by simp [fdB, c_10, c_23, c_32])) (by omega) (lv_sub hl [1, 2, 3, 0] rfl)
          · skip
            refine lv_iload_n hx hb dX1_find_35 rfl (lv_at hl 3 rfl) ?_
            exact rd_iret hx hb hr hlocks dX1_find_36 (by rw [fsI_some hno (by simp [fdB, c_10, c_23, c_32]) (by omega) hi2])
  exact loop (nn + 1) 0 ls (by omega) (fun j hj => absurd hj (Nat.not_lt_zero j)) (by omega) (lv_sub hl [1, 2, 3, 0] rfl)
set_option maxHeartbeats 4000000 in
set_option maxRecDepth 100000 in
theorem kX1_firstFor (l : Launch) (D : va_G) (cI cZ : ClassId) (na hN aN nn : Nat) (N : Nat → Nat → Int32) (pe hP_ aP np : Nat) (P : Nat → Nat → Int32) (h : Int32) (sp : Int32) (hh : Int32) (hnn : nn ≤ 200) (hnp : np ≤ 24) (hw : HP np (P 4)) (ho : HO nn np N) : Met l yX1_firstFor wsX1_firstFor ({ frames := 3, cells := 0, slots := 0, locals := 67 } : Room) (RdP D [(cI, .int), (cZ, .boolean)] [.ref na, .int h, .int sp, .int hh] [(na, .inr (1, [.ref hN, .ref pe])), (hN, .inr (3, [.int (nI 200), .int (nI 5), .ref aN, .int (nI nn)])), (aN, .inl (cI, 200 * 5, .inl (fl 5 N))), (pe, .inr (2, [.ref hP_])), (hP_, .inr (3, [.int (nI 24), .int (nI 6), .ref aP, .int (nI np)])), (aP, .inl (cI, 24 * 6, .inl (fl 6 P)))]) (QcRead (fsI (ffB N (P 4) h sp hh) nn)) 0 0 (fun _ => False) := by
  refine rd_of (cc := cX1_firstFor) (maxL := 6) (ret := (some .int)) (by decide) rfl (Nat.le_of_ble_eq_true rfl) ?_
  intro pp ee ss mm bw me cd ls hx hb hr hts hown hlocks hml hP hK hl
  have hl : lv_has ls 6 [(0, .ref na), (1, .int h), (2, .int sp), (3, .int hh)] := hl
  have hf16 := hts (.fieldLink RX1 16 "OtherNames$Names" "rows" "LOtherNames$Rows;") (by decide +kernel)
  have hin1 := (show ∀ w ∈ wsX10, w ∈ wsX1_firstFor by decide +kernel)
  have hf20 := hts (.fieldLink RX1 20 "OtherNames$Names" "people" "LOtherNames$People;") (by decide +kernel)
  refine lv_iconst (v := 0) hx hb dX1_firstFor_0 (by decide) ?_
  refine lv_istore (lv' := [(4, .int 0), (0, .ref na), (1, .int h), (2, .int sp), (3, .int hh)]) hx hb dX1_firstFor_1 hl (by decide) rfl (fun ls hl => ?_)
  have loop : ∀ (k : Nat) (i : Nat) (ls : Array Slot), i ≤ nn → (∀ j, j < i → ffB N (P 4) h sp hh j = false) → nn < i + k → lv_has ls 6 [(0, .ref na), (1, .int h), (2, .int sp), (3, .int hh), (4, .int (nI i))] → W pp l ee ({ frames := 3, cells := 0, slots := 0, locals := 67 } : Room) ss mm ([.ref na, .int h, .int sp, .int hh] : List Value).toArray bw me cd ss.heap [] 0 0 (MQ bw (QcRead (fsI (ffB N (P 4) h sp hh) nn)) ([.ref na, .int h, .int sp, .int hh] : List Value).toArray ss 0 0 (fun _ => False)) (F0 mm 3 ls []) := by
    intro k
    induction k with
    | zero => intro i ls hi hno hk; exact absurd hk (by omega)
    | succ k ih =>
      intro i ls hi hno hk hl
      refine lv_iload hx hb dX1_firstFor_3 (lv_at hl 4 rfl) ?_
      refine lv_aload_n hx hb dX1_firstFor_5 rfl (lv_at hl 0 rfl) ?_
      refine va_get (D := D) (ci := 1) (v := .ref hN) (C := RX1) (T := TX1) (N := 2) hx hb hts hin1 hown hK hP 0 rfl rfl 0 (by decide) hf16 (fun _ h9 => h9) rfl dX1_firstFor_6 ?_
      refine rcV (As := []) (rest := [.int (nI i)]) (ci := 3) ⟨hx, hb, hml, hown, hts⟩ (kX3_size l D cI cZ hN aN 200 5 nn N (by first | assumption | omega)) (cwV 0 hts gX1_firstFor_X3_size rfl rfl rfl (by decide +kernel) ⟨Nat.le_of_ble_eq_true rfl, Nat.le_of_ble_eq_true rfl⟩) hK hP [1, 2] rfl rfl rfl rfl rfl hl.1 rfl (Nat.le_of_ble_eq_true rfl) ⟨Nat.zero_le _, Nat.zero_le _⟩ dX1_firstFor_9 ?_
      refine lv_icmp_ge (tgt := 77) hx hb dX1_firstFor_12 (by decide) (fun c_12 => ?_) (fun c_12 => ?_)
      · skip
        have hi2 : i = nn := Nat.le_antisymm hi (lit_T c_12 nn rfl (by omega) (by omega))
        refine lv_iconst (v := (-1)) hx hb dX1_firstFor_77 (by decide) ?_
        exact rd_iret hx hb hr hlocks dX1_firstFor_78 (by rw [hi2] at hno; rw [fsI_none hno])
      · skip
        have hi2 : i < nn := lit_F c_12 nn rfl (by omega) (by omega)
        refine lv_aload_n hx hb dX1_firstFor_15 rfl (lv_at hl 0 rfl) ?_
        refine va_get (D := D) (ci := 1) (v := .ref hN) (C := RX1) (T := TX1) (N := 2) hx hb hts hin1 hown hK hP 0 rfl rfl 0 (by decide) hf16 (fun _ h9 => h9) rfl dX1_firstFor_16 ?_
        refine lv_iload hx hb dX1_firstFor_19 (lv_at hl 4 rfl) ?_
        refine lv_iconst (v := 0) hx hb dX1_firstFor_21 (by decide) ?_
        refine rcV (As := [.int (nI i), .int 0]) (rest := []) (ci := 3) ⟨hx, hb, hml, hown, hts⟩ (kX3_at l D cI cZ hN aN 200 5 nn N (nI i) 0 (by first | assumption | omega)) (cwV 2 hts gX1_firstFor_X3_at rfl rfl rfl (by decide +kernel) ⟨Nat.le_of_ble_eq_true rfl, Nat.le_of_ble_eq_true rfl⟩) hK hP [1, 2] rfl rfl rfl rfl rfl hl.1 rfl (Nat.le_of_ble_eq_true rfl) ⟨Nat.zero_le _, Nat.zero_le _⟩ dX1_firstFor_22 ?_
        rw [show tat nn 5 N (nI i) 0 = (N 0 i) from tat_nI (c := 0) (by omega) (by omega) hi2 (by omega)]
        refine lv_iload_n hx hb dX1_firstFor_25 rfl (lv_at hl 1 rfl) ?_
        refine lv_icmp_ne (tgt := 43) hx hb dX1_firstFor_26 (by decide) (fun c_26 => ?_) (fun c_26 => ?_)
        · skip
          refine lv_iconst (v := 0) hx hb dX1_firstFor_43 (by decide) ?_
          refine lv_istore (lv' := [(5, .int 0), (0, .ref na), (1, .int h), (2, .int sp), (3, .int hh), (4, .int (nI i))]) hx hb dX1_firstFor_44 hl (by decide) rfl (fun ls hl => ?_)
          refine lv_iload hx hb dX1_firstFor_46 (lv_at hl 0 rfl) ?_
          refine lv_if_eq (tgt := 71) hx hb dX1_firstFor_48 (by decide) (fun _ => ?_) (fun c9 => absurd c9 (by decide))
          refine lv_iinc (v := (nI i) + 1) (lv' := [(4, .int (((nI i) + 1))), (5, .int 0), (0, .ref na), (1, .int h), (2, .int sp), (3, .int hh)]) hx hb dX1_firstFor_71 hl (k := 5) rfl rfl (by decide) rfl (fun ls hl => ?_)
          refine lv_goto (tgt := 3) hx hb dX1_firstFor_74 (by decide) ?_
          rw [nI_1 i] at hl
          exact ih (i + 1) ls (by omega) (noS hno (by simp [ffB, c_12, c_26])) (by omega) (lv_sub hl [2, 3, 4, 5, 0] rfl)
        · skip
          refine lv_aload_n hx hb dX1_firstFor_29 rfl (lv_at hl 0 rfl) ?_
          refine lv_iload hx hb dX1_firstFor_30 (lv_at hl 4 rfl) ?_
          refine rcV (As := [.int (nI i)]) (rest := []) (ci := 1) ⟨hx, hb, hml, hown, hts⟩ (kX1_spanNumberAt l D cI cZ na hN aN nn N pe hP_ aP np P (nI i) (by first | assumption | omega) (by first | assumption | omega)) (cwV 1 hts gX1_firstFor_X1_spanNumberAt rfl rfl rfl (by decide +kernel) ⟨Nat.le_of_ble_eq_true rfl, Nat.le_of_ble_eq_true rfl⟩) hK hP [0, 1, 2, 3, 4, 5] rfl rfl rfl rfl rfl hl.1 rfl (Nat.le_of_ble_eq_true rfl) ⟨Nat.zero_le _, Nat.zero_le _⟩ dX1_firstFor_32 ?_
          rw [show tat nn 5 N (nI i) 4 = (N 4 i) from tat_nI (c := 4) (by omega) (by omega) hi2 (by omega)]
          refine lv_iload_n hx hb dX1_firstFor_35 rfl (lv_at hl 2 rfl) ?_
          refine lv_icmp_ne (tgt := 43) hx hb dX1_firstFor_36 (by decide) (fun c_36 => ?_) (fun c_36 => ?_)
          · skip
            refine lv_iconst (v := 0) hx hb dX1_firstFor_43 (by decide) ?_
            refine lv_istore (lv' := [(5, .int 0), (0, .ref na), (1, .int h), (2, .int sp), (3, .int hh), (4, .int (nI i))]) hx hb dX1_firstFor_44 hl (by decide) rfl (fun ls hl => ?_)
            refine lv_iload hx hb dX1_firstFor_46 (lv_at hl 0 rfl) ?_
            refine lv_if_eq (tgt := 71) hx hb dX1_firstFor_48 (by decide) (fun _ => ?_) (fun c9 => absurd c9 (by decide))
            refine lv_iinc (v := (nI i) + 1) (lv' := [(4, .int (((nI i) + 1))), (5, .int 0), (0, .ref na), (1, .int h), (2, .int sp), (3, .int hh)]) hx hb dX1_firstFor_71 hl (k := 5) rfl rfl (by decide) rfl (fun ls hl => ?_)
            refine lv_goto (tgt := 3) hx hb dX1_firstFor_74 (by decide) ?_
            rw [nI_1 i] at hl
            exact ih (i + 1) ls (by omega) (noS hno (by simp [ffB, c_12, c_26, c_36])) (by omega) (lv_sub hl [2, 3, 4, 5, 0] rfl)
          · skip
            refine lv_iconst (v := 1) hx hb dX1_firstFor_39 (by decide) ?_
            refine lv_goto (tgt := 44) hx hb dX1_firstFor_40 (by decide) ?_
            refine lv_istore (lv' := [(5, .int 1), (0, .ref na), (1, .int h), (2, .int sp), (3, .int hh), (4, .int (nI i))]) hx hb dX1_firstFor_44 hl (by decide) rfl (fun ls hl => ?_)
            refine lv_iload hx hb dX1_firstFor_46 (lv_at hl 0 rfl) ?_
            refine lv_if_eq (tgt := 71) hx hb dX1_firstFor_48 (by decide) (fun c9 => absurd c9 (by decide)) (fun _ => ?_)
            refine lv_aload_n hx hb dX1_firstFor_51 rfl (lv_at hl 1 rfl) ?_
            refine va_get (D := D) (ci := 1) (v := .ref pe) (C := RX1) (T := TX1) (N := 2) hx hb hts hin1 hown hK hP 0 rfl rfl 1 (by decide) hf20 (fun _ h9 => h9) rfl dX1_firstFor_52 ?_
            refine lv_aload_n hx hb dX1_firstFor_55 rfl (lv_at hl 1 rfl) ?_
            refine lv_iload hx hb dX1_firstFor_56 (lv_at hl 5 rfl) ?_
            refine rcV (As := [.int (nI i)]) (rest := [.ref pe]) (ci := 1) ⟨hx, hb, hml, hown, hts⟩ (kX1_ownerAt l D cI cZ na hN aN nn N pe hP_ aP np P (nI i) (by first | assumption | omega) (by first | assumption | omega)) (cwV 1 hts gX1_firstFor_X1_ownerAt rfl rfl rfl (by decide +kernel) ⟨Nat.le_of_ble_eq_true rfl, Nat.le_of_ble_eq_true rfl⟩) hK hP [0, 1, 2, 3, 4, 5] rfl rfl rfl rfl rfl hl.1 rfl (Nat.le_of_ble_eq_true rfl) ⟨Nat.zero_le _, Nat.zero_le _⟩ dX1_firstFor_58 ?_
            rw [show tat nn 5 N (nI i) 2 = nI (ow N i) from (tat_nI (c := 2) (by omega) (by omega) hi2 (by omega)).trans (ho i hi2).1]
            refine rcV (As := [.int (nI (ow N i))]) (rest := []) (ci := 2) ⟨hx, hb, hml, hown, hts⟩ (kX2_headOf l D cI cZ pe hP_ aP np P (ow N i) (by first | assumption | omega) (by first | assumption | omega) (ho i hi2).2) (cwV 1 hts gX1_firstFor_X2_headOf rfl rfl rfl (by decide +kernel) ⟨Nat.le_of_ble_eq_true rfl, Nat.le_of_ble_eq_true rfl⟩) hK hP [3, 4, 5] rfl rfl rfl rfl rfl hl.1 rfl (Nat.le_of_ble_eq_true rfl) ⟨Nat.zero_le _, Nat.zero_le _⟩ dX1_firstFor_61 ?_
            refine lv_iload_n hx hb dX1_firstFor_64 rfl (lv_at hl 4 rfl) ?_
            refine lv_icmp_ne (tgt := 71) hx hb dX1_firstFor_65 (by decide) (fun c_65 => ?_) (fun c_65 => ?_)
            · skip
              refine lv_iinc (v := (nI i) + 1) (lv' := [(4, .int (((nI i) + 1))), (5, .int 1), (0, .ref na), (1, .int h), (2, .int sp), (3, .int hh)]) hx hb dX1_firstFor_71 hl (k := 5) rfl rfl (by decide) rfl (fun ls hl => ?_)
              refine lv_goto (tgt := 3) hx hb dX1_firstFor_74 (by decide) ?_
              rw [nI_1 i] at hl
              exact ih (i + 1) ls (by omega) (noS hno (by simp [ffB, c_12, c_26, c_36, c_65])) (by omega) (lv_sub hl [2, 3, 4, 5, 0] rfl)
            · skip
              refine lv_iload hx hb dX1_firstFor_68 (lv_at hl 5 rfl) ?_
              exact rd_iret hx hb hr hlocks dX1_firstFor_70 (by rw [fsI_some hno (by simp [ffB, c_12, c_26, c_36, c_65]) (by omega) hi2])
  exact loop (nn + 1) 0 ls (by omega) (fun j hj => absurd hj (Nat.not_lt_zero j)) (by omega) (lv_sub hl [1, 2, 3, 4, 0] rfl)
set_option maxHeartbeats 4000000 in
set_option maxRecDepth 100000 in
theorem kX1_leadsTo (l : Launch) (D : va_G) (cI cZ : ClassId) (na hN aN nn : Nat) (N : Nat → Nat → Int32) (pe hP_ aP np : Nat) (P : Nat → Nat → Int32) (i : Nat) (hnn : nn ≤ 200) (hnp : np ≤ 24) (hw : HP np (P 4)) (ho : HO nn np N) (hi2 : i < nn) : Met l yX1_leadsTo wsX1_leadsTo ({ frames := 4, cells := 0, slots := 0, locals := 92 } : Room) (RdP D [(cI, .int), (cZ, .boolean)] [.ref na, .int (nI i)] [(na, .inr (1, [.ref hN, .ref pe])), (hN, .inr (3, [.int (nI 200), .int (nI 5), .ref aN, .int (nI nn)])), (aN, .inl (cI, 200 * 5, .inl (fl 5 N))), (pe, .inr (2, [.ref hP_])), (hP_, .inr (3, [.int (nI 24), .int (nI 6), .ref aP, .int (nI np)])), (aP, .inl (cI, 24 * 6, .inl (fl 6 P)))]) (QcRead (fsI (ffB N (P 4) (N 0 i) (N 4 i) (nI (hd (P 4) (ow N i)))) nn)) 0 0 (fun _ => False) := by
  refine rd_of (cc := cX1_leadsTo) (maxL := 2) (ret := (some .int)) (by decide) rfl (Nat.le_of_ble_eq_true rfl) ?_
  intro pp ee ss mm bw me cd ls hx hb hr hts hown hlocks hml hP hK hl
  have hl : lv_has ls 2 [(0, .ref na), (1, .int ((nI i)))] := hl
  have hf16 := hts (.fieldLink RX1 16 "OtherNames$Names" "rows" "LOtherNames$Rows;") (by decide +kernel)
  have hin1 := (show ∀ w ∈ wsX10, w ∈ wsX1_leadsTo by decide +kernel)
  have hf20 := hts (.fieldLink RX1 20 "OtherNames$Names" "people" "LOtherNames$People;") (by decide +kernel)
  refine lv_aload_n hx hb dX1_leadsTo_0 rfl (lv_at hl 0 rfl) ?_
  refine lv_aload_n hx hb dX1_leadsTo_1 rfl (lv_at hl 0 rfl) ?_
  refine va_get (D := D) (ci := 1) (v := .ref hN) (C := RX1) (T := TX1) (N := 2) hx hb hts hin1 hown hK hP 0 rfl rfl 0 (by decide) hf16 (fun _ h9 => h9) rfl dX1_leadsTo_2 ?_
  refine lv_iload_n hx hb dX1_leadsTo_5 rfl (lv_at hl 1 rfl) ?_
  refine lv_iconst (v := 0) hx hb dX1_leadsTo_6 (by decide) ?_
  refine rcV (As := [.int ((nI i)), .int 0]) (rest := [.ref na]) (ci := 3) ⟨hx, hb, hml, hown, hts⟩ (kX3_at l D cI cZ hN aN 200 5 nn N (nI i) 0 (by first | assumption | omega)) (cwV 2 hts gX1_leadsTo_X3_at rfl rfl rfl (by decide +kernel) ⟨Nat.le_of_ble_eq_true rfl, Nat.le_of_ble_eq_true rfl⟩) hK hP [1, 2] rfl rfl rfl rfl rfl hl.1 rfl (Nat.le_of_ble_eq_true rfl) ⟨Nat.zero_le _, Nat.zero_le _⟩ dX1_leadsTo_7 ?_
  rw [show tat nn 5 N (nI i) 0 = (N 0 i) from tat_nI (c := 0) (by omega) (by omega) hi2 (by omega)]
  refine lv_aload_n hx hb dX1_leadsTo_10 rfl (lv_at hl 0 rfl) ?_
  refine lv_iload_n hx hb dX1_leadsTo_11 rfl (lv_at hl 1 rfl) ?_
  refine rcV (As := [.int ((nI i))]) (rest := [.int ((N 0 i)), .ref na]) (ci := 1) ⟨hx, hb, hml, hown, hts⟩ (kX1_spanNumberAt l D cI cZ na hN aN nn N pe hP_ aP np P (nI i) (by first | assumption | omega) (by first | assumption | omega)) (cwV 1 hts gX1_leadsTo_X1_spanNumberAt rfl rfl rfl (by decide +kernel) ⟨Nat.le_of_ble_eq_true rfl, Nat.le_of_ble_eq_true rfl⟩) hK hP [0, 1, 2, 3, 4, 5] rfl rfl rfl rfl rfl hl.1 rfl (Nat.le_of_ble_eq_true rfl) ⟨Nat.zero_le _, Nat.zero_le _⟩ dX1_leadsTo_12 ?_
  rw [show tat nn 5 N (nI i) 4 = (N 4 i) from tat_nI (c := 4) (by omega) (by omega) hi2 (by omega)]
  refine lv_aload_n hx hb dX1_leadsTo_15 rfl (lv_at hl 0 rfl) ?_
  refine va_get (D := D) (ci := 1) (v := .ref pe) (C := RX1) (T := TX1) (N := 2) hx hb hts hin1 hown hK hP 0 rfl rfl 1 (by decide) hf20 (fun _ h9 => h9) rfl dX1_leadsTo_16 ?_
  refine lv_aload_n hx hb dX1_leadsTo_19 rfl (lv_at hl 0 rfl) ?_
  refine lv_iload_n hx hb dX1_leadsTo_20 rfl (lv_at hl 1 rfl) ?_
  refine rcV (As := [.int ((nI i))]) (rest := [.ref pe, .int ((N 4 i)), .int ((N 0 i)), .ref na]) (ci := 1) ⟨hx, hb, hml, hown, hts⟩ (kX1_ownerAt l D cI cZ na hN aN nn N pe hP_ aP np P (nI i) (by first | assumption | omega) (by first | assumption | omega)) (cwV 1 hts gX1_leadsTo_X1_ownerAt rfl rfl rfl (by decide +kernel) ⟨Nat.le_of_ble_eq_true rfl, Nat.le_of_ble_eq_true rfl⟩) hK hP [0, 1, 2, 3, 4, 5] rfl rfl rfl rfl rfl hl.1 rfl (Nat.le_of_ble_eq_true rfl) ⟨Nat.zero_le _, Nat.zero_le _⟩ dX1_leadsTo_21 ?_
  rw [show tat nn 5 N (nI i) 2 = nI (ow N i) from (tat_nI (c := 2) (by omega) (by omega) hi2 (by omega)).trans (ho i hi2).1]
  refine rcV (As := [.int (nI (ow N i))]) (rest := [.int ((N 4 i)), .int ((N 0 i)), .ref na]) (ci := 2) ⟨hx, hb, hml, hown, hts⟩ (kX2_headOf l D cI cZ pe hP_ aP np P (ow N i) (by first | assumption | omega) (by first | assumption | omega) (ho i hi2).2) (cwV 1 hts gX1_leadsTo_X2_headOf rfl rfl rfl (by decide +kernel) ⟨Nat.le_of_ble_eq_true rfl, Nat.le_of_ble_eq_true rfl⟩) hK hP [3, 4, 5] rfl rfl rfl rfl rfl hl.1 rfl (Nat.le_of_ble_eq_true rfl) ⟨Nat.zero_le _, Nat.zero_le _⟩ dX1_leadsTo_24 ?_
  refine rcV (As := [.int ((N 0 i)), .int ((N 4 i)), .int (nI (hd (P 4) (ow N i)))]) (rest := []) (ci := 1) ⟨hx, hb, hml, hown, hts⟩ (kX1_firstFor l D cI cZ na hN aN nn N pe hP_ aP np P (N 0 i) (N 4 i) (nI (hd (P 4) (ow N i))) (by first | assumption | omega) (by first | assumption | omega) (by first | assumption | omega) (by first | assumption | omega)) (cwV 3 hts gX1_leadsTo_X1_firstFor rfl rfl rfl (by decide +kernel) ⟨Nat.le_of_ble_eq_true rfl, Nat.le_of_ble_eq_true rfl⟩) hK hP [0, 1, 2, 3, 4, 5] rfl rfl rfl rfl rfl hl.1 rfl (Nat.le_of_ble_eq_true rfl) ⟨Nat.zero_le _, Nat.zero_le _⟩ dX1_leadsTo_27 ?_
  exact rd_iret hx hb hr hlocks dX1_leadsTo_30 (by rfl)
set_option maxHeartbeats 4000000 in
set_option maxRecDepth 100000 in
theorem kX1_countWith (l : Launch) (D : va_G) (cI cZ : ClassId) (na hN aN nn : Nat) (N : Nat → Nat → Int32) (pe hP_ aP np : Nat) (P : Nat → Nat → Int32) (cx : Nat) (v : Int32) (hnn : nn ≤ 200) (hnp : np ≤ 24) (hcx : cx < 5) : Met l yX1_countWith wsX1_countWith ({ frames := 2, cells := 0, slots := 0, locals := 44 } : Room) (RdP D [(cI, .int), (cZ, .boolean)] [.ref na, .int (nI cx), .int v] [(na, .inr (1, [.ref hN, .ref pe])), (hN, .inr (3, [.int (nI 200), .int (nI 5), .ref aN, .int (nI nn)])), (aN, .inl (cI, 200 * 5, .inl (fl 5 N))), (pe, .inr (2, [.ref hP_])), (hP_, .inr (3, [.int (nI 24), .int (nI 6), .ref aP, .int (nI np)])), (aP, .inl (cI, 24 * 6, .inl (fl 6 P)))]) (QcRead (nI (ct (fun i => decide (N cx i = v)) nn))) 0 0 (fun _ => False) := by
  refine rd_of (cc := cX1_countWith) (maxL := 5) (ret := (some .int)) (by decide) rfl (Nat.le_of_ble_eq_true rfl) ?_
  intro pp ee ss mm bw me cd ls hx hb hr hts hown hlocks hml hP hK hl
  have hl : lv_has ls 5 [(0, .ref na), (1, .int ((nI cx))), (2, .int v)] := hl
  have hf16 := hts (.fieldLink RX1 16 "OtherNames$Names" "rows" "LOtherNames$Rows;") (by decide +kernel)
  have hin1 := (show ∀ w ∈ wsX10, w ∈ wsX1_countWith by decide +kernel)
  refine lv_iconst (v := 0) hx hb dX1_countWith_0 (by decide) ?_
  refine lv_istore_n (lv' := [(3, .int 0), (0, .ref na), (1, .int ((nI cx))), (2, .int v)]) hx hb dX1_countWith_1 rfl hl (by decide) rfl (fun ls hl => ?_)
  refine lv_iconst (v := 0) hx hb dX1_countWith_2 (by decide) ?_
  refine lv_istore (lv' := [(4, .int 0), (3, .int 0), (0, .ref na), (1, .int ((nI cx))), (2, .int v)]) hx hb dX1_countWith_3 hl (by decide) rfl (fun ls hl => ?_)
  have loop : ∀ (k : Nat) (i : Nat) (ls : Array Slot), i ≤ nn → nn < i + k → lv_has ls 5 [(0, .ref na), (1, .int ((nI cx))), (2, .int v), (3, .int (nI (ct (fun i => decide (N cx i = v)) i))), (4, .int (nI i))] → W pp l ee ({ frames := 2, cells := 0, slots := 0, locals := 44 } : Room) ss mm ([.ref na, .int (nI cx), .int v] : List Value).toArray bw me cd ss.heap [] 0 0 (MQ bw (QcRead (nI (ct (fun i => decide (N cx i = v)) nn))) ([.ref na, .int (nI cx), .int v] : List Value).toArray ss 0 0 (fun _ => False)) (F0 mm 5 ls []) := by
    intro k
    induction k with
    | zero => intro i ls hi hk; exact absurd hk (by omega)
    | succ k ih =>
      intro i ls hi hk hl
      refine lv_iload hx hb dX1_countWith_5 (lv_at hl 4 rfl) ?_
      refine lv_aload_n hx hb dX1_countWith_7 rfl (lv_at hl 0 rfl) ?_
      refine va_get (D := D) (ci := 1) (v := .ref hN) (C := RX1) (T := TX1) (N := 2) hx hb hts hin1 hown hK hP 0 rfl rfl 0 (by decide) hf16 (fun _ h9 => h9) rfl dX1_countWith_8 ?_
      refine rcV (As := []) (rest := [.int (nI i)]) (ci := 3) ⟨hx, hb, hml, hown, hts⟩ (kX3_size l D cI cZ hN aN 200 5 nn N (by first | assumption | omega)) (cwV 0 hts gX1_countWith_X3_size rfl rfl rfl (by decide +kernel) ⟨Nat.le_of_ble_eq_true rfl, Nat.le_of_ble_eq_true rfl⟩) hK hP [1, 2] rfl rfl rfl rfl rfl hl.1 rfl (Nat.le_of_ble_eq_true rfl) ⟨Nat.zero_le _, Nat.zero_le _⟩ dX1_countWith_11 ?_
      refine lv_icmp_ge (tgt := 40) hx hb dX1_countWith_14 (by decide) (fun c_14 => ?_) (fun c_14 => ?_)
      · skip
        have hi2 : i = nn := Nat.le_antisymm hi (lit_T c_14 nn rfl (by omega) (by omega))
        refine lv_iload_n hx hb dX1_countWith_40 rfl (lv_at hl 3 rfl) ?_
        exact rd_iret hx hb hr hlocks dX1_countWith_41 (by rw [hi2])
      · skip
        have hi2 : i < nn := lit_F c_14 nn rfl (by omega) (by omega)
        refine lv_aload_n hx hb dX1_countWith_17 rfl (lv_at hl 0 rfl) ?_
        refine va_get (D := D) (ci := 1) (v := .ref hN) (C := RX1) (T := TX1) (N := 2) hx hb hts hin1 hown hK hP 0 rfl rfl 0 (by decide) hf16 (fun _ h9 => h9) rfl dX1_countWith_18 ?_
        refine lv_iload hx hb dX1_countWith_21 (lv_at hl 4 rfl) ?_
        refine lv_iload_n hx hb dX1_countWith_23 rfl (lv_at hl 1 rfl) ?_
        refine rcV (As := [.int (nI i), .int ((nI cx))]) (rest := []) (ci := 3) ⟨hx, hb, hml, hown, hts⟩ (kX3_at l D cI cZ hN aN 200 5 nn N (nI i) (nI cx) (by first | assumption | omega)) (cwV 2 hts gX1_countWith_X3_at rfl rfl rfl (by decide +kernel) ⟨Nat.le_of_ble_eq_true rfl, Nat.le_of_ble_eq_true rfl⟩) hK hP [1, 2] rfl rfl rfl rfl rfl hl.1 rfl (Nat.le_of_ble_eq_true rfl) ⟨Nat.zero_le _, Nat.zero_le _⟩ dX1_countWith_24 ?_
        rw [show tat nn 5 N (nI i) (nI cx) = (N cx i) from tat_nI (by omega) (by omega) hi2 hcx]
        refine lv_iload_n hx hb dX1_countWith_27 rfl (lv_at hl 2 rfl) ?_
        refine lv_icmp_ne (tgt := 34) hx hb dX1_countWith_28 (by decide) (fun c_28 => ?_) (fun c_28 => ?_)
        · skip
          refine lv_iinc (v := (nI i) + 1) (lv' := [(4, .int (((nI i) + 1))), (0, .ref na), (1, .int ((nI cx))), (2, .int v), (3, .int (nI (ct (fun i => decide (N cx i = v)) i)))]) hx hb dX1_countWith_34 hl (k := 4) rfl rfl (by decide) rfl (fun ls hl => ?_)
          refine lv_goto (tgt := 5) hx hb dX1_countWith_37 (by decide) ?_
          rw [nI_1 i] at hl
          rw [show nI (ct (fun i => decide (N cx i = v)) i) = nI (ct (fun i => decide (N cx i = v)) (i + 1)) by exact ct_no (by simp [c_14, c_28])] at hl
          exact ih (i + 1) ls (by omega) (by omega) (lv_sub hl [1, 2, 3, 4, 0] rfl)
        · skip
          refine lv_iinc (v := (nI (ct (fun i => decide (N cx i = v)) i)) + 1) (lv' := [(3, .int (((nI (ct (fun i => decide (N cx i = v)) i)) + 1))), (0, .ref na), (1, .int ((nI cx))), (2, .int v), (4, .int (nI i))]) hx hb dX1_countWith_31 hl (k := 3) rfl rfl (by decide) rfl (fun ls hl => ?_)
          refine lv_iinc (v := (nI i) + 1) (lv' := [(4, .int (((nI i) + 1))), (3, .int (((nI (ct (fun i => decide (N cx i = v)) i)) + 1))), (0, .ref na), (1, .int ((nI cx))), (2, .int v)]) hx hb dX1_countWith_34 hl (k := 4) rfl rfl (by decide) rfl (fun ls hl => ?_)
          refine lv_goto (tgt := 5) hx hb dX1_countWith_37 (by decide) ?_
          rw [nI_1 i] at hl
          rw [show ((nI (ct (fun i => decide (N cx i = v)) i)) + 1) = nI (ct (fun i => decide (N cx i = v)) (i + 1)) by exact ct_yes (by simp [c_14, c_28])] at hl
          exact ih (i + 1) ls (by omega) (by omega) (lv_sub hl [2, 3, 4, 1, 0] rfl)
  exact loop (nn + 1) 0 ls (by omega) (by omega) (lv_sub hl [2, 3, 4, 1, 0] rfl)
set_option maxHeartbeats 4000000 in
set_option maxRecDepth 100000 in
theorem kX1_countGivenBy (l : Launch) (D : va_G) (cI cZ : ClassId) (na hN aN nn : Nat) (N : Nat → Nat → Int32) (pe hP_ aP np : Nat) (P : Nat → Nat → Int32) (h : Int32) (hnn : nn ≤ 200) (hnp : np ≤ 24) : Met l yX1_countGivenBy wsX1_countGivenBy ({ frames := 3, cells := 0, slots := 0, locals := 68 } : Room) (RdP D [(cI, .int), (cZ, .boolean)] [.ref na, .int h] [(na, .inr (1, [.ref hN, .ref pe])), (hN, .inr (3, [.int (nI 200), .int (nI 5), .ref aN, .int (nI nn)])), (aN, .inl (cI, 200 * 5, .inl (fl 5 N))), (pe, .inr (2, [.ref hP_])), (hP_, .inr (3, [.int (nI 24), .int (nI 6), .ref aP, .int (nI np)])), (aP, .inl (cI, 24 * 6, .inl (fl 6 P)))]) (QcRead (nI (ct (fun i => decide (N 0 i = h)) nn))) 0 0 (fun _ => False) := by
  refine rd_of (cc := cX1_countGivenBy) (maxL := 2) (ret := (some .int)) (by decide) rfl (Nat.le_of_ble_eq_true rfl) ?_
  intro pp ee ss mm bw me cd ls hx hb hr hts hown hlocks hml hP hK hl
  have hl : lv_has ls 2 [(0, .ref na), (1, .int h)] := hl
  refine lv_aload_n hx hb dX1_countGivenBy_0 rfl (lv_at hl 0 rfl) ?_
  refine lv_iconst (v := 0) hx hb dX1_countGivenBy_1 (by decide) ?_
  rw [show 0 = nI 0 from rfl]
  refine lv_iload_n hx hb dX1_countGivenBy_2 rfl (lv_at hl 1 rfl) ?_
  refine rcV (As := [.int (nI 0), .int h]) (rest := []) (ci := 1) ⟨hx, hb, hml, hown, hts⟩ (kX1_countWith l D cI cZ na hN aN nn N pe hP_ aP np P 0 h (by first | assumption | omega) (by first | assumption | omega) (by decide)) (cwV 2 hts gX1_countGivenBy_X1_countWith rfl rfl rfl (by decide +kernel) ⟨Nat.le_of_ble_eq_true rfl, Nat.le_of_ble_eq_true rfl⟩) hK hP [0, 1, 2, 3, 4, 5] rfl rfl rfl rfl rfl hl.1 rfl (Nat.le_of_ble_eq_true rfl) ⟨Nat.zero_le _, Nat.zero_le _⟩ dX1_countGivenBy_3 ?_
  exact rd_iret hx hb hr hlocks dX1_countGivenBy_6 (by rfl)
set_option maxHeartbeats 4000000 in
set_option maxRecDepth 100000 in
theorem kX1_countOwnedBy (l : Launch) (D : va_G) (cI cZ : ClassId) (na hN aN nn : Nat) (N : Nat → Nat → Int32) (pe hP_ aP np : Nat) (P : Nat → Nat → Int32) (p : Int32) (hnn : nn ≤ 200) (hnp : np ≤ 24) : Met l yX1_countOwnedBy wsX1_countOwnedBy ({ frames := 3, cells := 0, slots := 0, locals := 68 } : Room) (RdP D [(cI, .int), (cZ, .boolean)] [.ref na, .int p] [(na, .inr (1, [.ref hN, .ref pe])), (hN, .inr (3, [.int (nI 200), .int (nI 5), .ref aN, .int (nI nn)])), (aN, .inl (cI, 200 * 5, .inl (fl 5 N))), (pe, .inr (2, [.ref hP_])), (hP_, .inr (3, [.int (nI 24), .int (nI 6), .ref aP, .int (nI np)])), (aP, .inl (cI, 24 * 6, .inl (fl 6 P)))]) (QcRead (nI (ct (fun i => decide (N 2 i = p)) nn))) 0 0 (fun _ => False) := by
  refine rd_of (cc := cX1_countOwnedBy) (maxL := 2) (ret := (some .int)) (by decide) rfl (Nat.le_of_ble_eq_true rfl) ?_
  intro pp ee ss mm bw me cd ls hx hb hr hts hown hlocks hml hP hK hl
  have hl : lv_has ls 2 [(0, .ref na), (1, .int p)] := hl
  refine lv_aload_n hx hb dX1_countOwnedBy_0 rfl (lv_at hl 0 rfl) ?_
  refine lv_iconst (v := 2) hx hb dX1_countOwnedBy_1 (by decide) ?_
  rw [show 2 = nI 2 from rfl]
  refine lv_iload_n hx hb dX1_countOwnedBy_2 rfl (lv_at hl 1 rfl) ?_
  refine rcV (As := [.int (nI 2), .int p]) (rest := []) (ci := 1) ⟨hx, hb, hml, hown, hts⟩ (kX1_countWith l D cI cZ na hN aN nn N pe hP_ aP np P 2 p (by first | assumption | omega) (by first | assumption | omega) (by decide)) (cwV 2 hts gX1_countOwnedBy_X1_countWith rfl rfl rfl (by decide +kernel) ⟨Nat.le_of_ble_eq_true rfl, Nat.le_of_ble_eq_true rfl⟩) hK hP [0, 1, 2, 3, 4, 5] rfl rfl rfl rfl rfl hl.1 rfl (Nat.le_of_ble_eq_true rfl) ⟨Nat.zero_le _, Nat.zero_le _⟩ dX1_countOwnedBy_3 ?_
  exact rd_iret hx hb hr hlocks dX1_countOwnedBy_6 (by rfl)
set_option maxHeartbeats 4000000 in
set_option maxRecDepth 100000 in
theorem kX1_knownTo (l : Launch) (D : va_G) (cI cZ : ClassId) (na hN aN nn : Nat) (N : Nat → Nat → Int32) (pe hP_ aP np : Nat) (P : Nat → Nat → Int32) (h : Int32) (hnn : nn ≤ 200) (hnp : np ≤ 24) (hw : HP np (P 4)) (ho : HO nn np N) : Met l yX1_knownTo wsX1_knownTo ({ frames := 3, cells := 0, slots := 0, locals := 67 } : Room) (RdP D [(cI, .int), (cZ, .boolean)] [.ref na, .int h] [(na, .inr (1, [.ref hN, .ref pe])), (hN, .inr (3, [.int (nI 200), .int (nI 5), .ref aN, .int (nI nn)])), (aN, .inl (cI, 200 * 5, .inl (fl 5 N))), (pe, .inr (2, [.ref hP_])), (hP_, .inr (3, [.int (nI 24), .int (nI 6), .ref aP, .int (nI np)])), (aP, .inl (cI, 24 * 6, .inl (fl 6 P)))]) (QcRead (knw np P N h nn)) 0 0 (fun _ => False) := by
  refine rd_of (cc := cX1_knownTo) (maxL := 5) (ret := (some .int)) (by decide) rfl (Nat.le_of_ble_eq_true rfl) ?_
  intro pp ee ss mm bw me cd ls hx hb hr hts hown hlocks hml hP hK hl
  have hl : lv_has ls 5 [(0, .ref na), (1, .int h)] := hl
  have hf16 := hts (.fieldLink RX1 16 "OtherNames$Names" "rows" "LOtherNames$Rows;") (by decide +kernel)
  have hin1 := (show ∀ w ∈ wsX10, w ∈ wsX1_knownTo by decide +kernel)
  have hf20 := hts (.fieldLink RX1 20 "OtherNames$Names" "people" "LOtherNames$People;") (by decide +kernel)
  refine lv_iconst (v := 0) hx hb dX1_knownTo_0 (by decide) ?_
  refine lv_istore_n (lv' := [(2, .int 0), (0, .ref na), (1, .int h)]) hx hb dX1_knownTo_1 rfl hl (by decide) rfl (fun ls hl => ?_)
  refine lv_iconst (v := 0) hx hb dX1_knownTo_2 (by decide) ?_
  refine lv_istore_n (lv' := [(3, .int 0), (2, .int 0), (0, .ref na), (1, .int h)]) hx hb dX1_knownTo_3 rfl hl (by decide) rfl (fun ls hl => ?_)
  have loop : ∀ (k : Nat) (i : Nat) (ls : Array Slot), i ≤ nn → nn < i + k → lv_has ls 5 [(0, .ref na), (1, .int h), (2, .int (knw np P N h i)), (3, .int (nI i))] → W pp l ee ({ frames := 3, cells := 0, slots := 0, locals := 67 } : Room) ss mm ([.ref na, .int h] : List Value).toArray bw me cd ss.heap [] 0 0 (MQ bw (QcRead (knw np P N h nn)) ([.ref na, .int h] : List Value).toArray ss 0 0 (fun _ => False)) (F0 mm 4 ls []) := by
    intro k
    induction k with
    | zero => intro i ls hi hk; exact absurd hk (by omega)
    | succ k ih =>
      intro i ls hi hk hl
      refine lv_iload_n hx hb dX1_knownTo_4 rfl (lv_at hl 3 rfl) ?_
      refine lv_aload_n hx hb dX1_knownTo_5 rfl (lv_at hl 0 rfl) ?_
      refine va_get (D := D) (ci := 1) (v := .ref hN) (C := RX1) (T := TX1) (N := 2) hx hb hts hin1 hown hK hP 0 rfl rfl 0 (by decide) hf16 (fun _ h9 => h9) rfl dX1_knownTo_6 ?_
      refine rcV (As := []) (rest := [.int (nI i)]) (ci := 3) ⟨hx, hb, hml, hown, hts⟩ (kX3_size l D cI cZ hN aN 200 5 nn N (by first | assumption | omega)) (cwV 0 hts gX1_knownTo_X3_size rfl rfl rfl (by decide +kernel) ⟨Nat.le_of_ble_eq_true rfl, Nat.le_of_ble_eq_true rfl⟩) hK hP [1, 2] rfl rfl rfl rfl rfl hl.1 rfl (Nat.le_of_ble_eq_true rfl) ⟨Nat.zero_le _, Nat.zero_le _⟩ dX1_knownTo_9 ?_
      refine lv_icmp_ge (tgt := 67) hx hb dX1_knownTo_12 (by decide) (fun c_12 => ?_) (fun c_12 => ?_)
      · skip
        have hi2 : i = nn := Nat.le_antisymm hi (lit_T c_12 nn rfl (by omega) (by omega))
        refine lv_iload_n hx hb dX1_knownTo_67 rfl (lv_at hl 2 rfl) ?_
        exact rd_iret hx hb hr hlocks dX1_knownTo_68 (by rw [hi2])
      · skip
        have hi2 : i < nn := lit_F c_12 nn rfl (by omega) (by omega)
        refine lv_aload_n hx hb dX1_knownTo_15 rfl (lv_at hl 0 rfl) ?_
        refine va_get (D := D) (ci := 1) (v := .ref pe) (C := RX1) (T := TX1) (N := 2) hx hb hts hin1 hown hK hP 0 rfl rfl 1 (by decide) hf20 (fun _ h9 => h9) rfl dX1_knownTo_16 ?_
        refine lv_aload_n hx hb dX1_knownTo_19 rfl (lv_at hl 0 rfl) ?_
        refine lv_iload_n hx hb dX1_knownTo_20 rfl (lv_at hl 3 rfl) ?_
        refine rcV (As := [.int (nI i)]) (rest := [.ref pe]) (ci := 1) ⟨hx, hb, hml, hown, hts⟩ (kX1_ownerAt l D cI cZ na hN aN nn N pe hP_ aP np P (nI i) (by first | assumption | omega) (by first | assumption | omega)) (cwV 1 hts gX1_knownTo_X1_ownerAt rfl rfl rfl (by decide +kernel) ⟨Nat.le_of_ble_eq_true rfl, Nat.le_of_ble_eq_true rfl⟩) hK hP [0, 1, 2, 3, 4, 5] rfl rfl rfl rfl rfl hl.1 rfl (Nat.le_of_ble_eq_true rfl) ⟨Nat.zero_le _, Nat.zero_le _⟩ dX1_knownTo_21 ?_
        rw [show tat nn 5 N (nI i) 2 = nI (ow N i) from (tat_nI (c := 2) (by omega) (by omega) hi2 (by omega)).trans (ho i hi2).1]
        refine rcV (As := [.int (nI (ow N i))]) (rest := []) (ci := 2) ⟨hx, hb, hml, hown, hts⟩ (kX2_headOf l D cI cZ pe hP_ aP np P (ow N i) (by first | assumption | omega) (by first | assumption | omega) (ho i hi2).2) (cwV 1 hts gX1_knownTo_X2_headOf rfl rfl rfl (by decide +kernel) ⟨Nat.le_of_ble_eq_true rfl, Nat.le_of_ble_eq_true rfl⟩) hK hP [3, 4, 5] rfl rfl rfl rfl rfl hl.1 rfl (Nat.le_of_ble_eq_true rfl) ⟨Nat.zero_le _, Nat.zero_le _⟩ dX1_knownTo_24 ?_
        refine lv_istore (lv' := [(4, .int (nI (hd (P 4) (ow N i)))), (0, .ref na), (1, .int h), (2, .int (knw np P N h i)), (3, .int (nI i))]) hx hb dX1_knownTo_27 hl (by decide) rfl (fun ls hl => ?_)
        refine lv_aload_n hx hb dX1_knownTo_29 rfl (lv_at hl 1 rfl) ?_
        refine va_get (D := D) (ci := 1) (v := .ref hN) (C := RX1) (T := TX1) (N := 2) hx hb hts hin1 hown hK hP 0 rfl rfl 0 (by decide) hf16 (fun _ h9 => h9) rfl dX1_knownTo_30 ?_
        refine lv_iload_n hx hb dX1_knownTo_33 rfl (lv_at hl 4 rfl) ?_
        refine lv_iconst (v := 0) hx hb dX1_knownTo_34 (by decide) ?_
        refine rcV (As := [.int (nI i), .int 0]) (rest := []) (ci := 3) ⟨hx, hb, hml, hown, hts⟩ (kX3_at l D cI cZ hN aN 200 5 nn N (nI i) 0 (by first | assumption | omega)) (cwV 2 hts gX1_knownTo_X3_at rfl rfl rfl (by decide +kernel) ⟨Nat.le_of_ble_eq_true rfl, Nat.le_of_ble_eq_true rfl⟩) hK hP [1, 2] rfl rfl rfl rfl rfl hl.1 rfl (Nat.le_of_ble_eq_true rfl) ⟨Nat.zero_le _, Nat.zero_le _⟩ dX1_knownTo_35 ?_
        rw [show tat nn 5 N (nI i) 0 = (N 0 i) from tat_nI (c := 0) (by omega) (by omega) hi2 (by omega)]
        refine lv_iload_n hx hb dX1_knownTo_38 rfl (lv_at hl 2 rfl) ?_
        refine lv_icmp_ne (tgt := 61) hx hb dX1_knownTo_39 (by decide) (fun c_39 => ?_) (fun c_39 => ?_)
        · skip
          refine lv_iinc (v := (nI i) + 1) (lv' := [(3, .int (((nI i) + 1))), (4, .int (nI (hd (P 4) (ow N i)))), (0, .ref na), (1, .int h), (2, .int (knw np P N h i))]) hx hb dX1_knownTo_61 hl (k := 4) rfl rfl (by decide) rfl (fun ls hl => ?_)
          refine lv_goto (tgt := 4) hx hb dX1_knownTo_64 (by decide) ?_
          rw [nI_1 i] at hl
          rw [show knw np P N h i = knw np P N h (i + 1) by rw [knw, if_neg (fun q => c_39 q.1)]] at hl
          exact ih (i + 1) ls (by omega) (by omega) (lv_sub hl [2, 3, 4, 0] rfl)
        · skip
          refine lv_aload_n hx hb dX1_knownTo_42 rfl (lv_at hl 1 rfl) ?_
          refine va_get (D := D) (ci := 1) (v := .ref pe) (C := RX1) (T := TX1) (N := 2) hx hb hts hin1 hown hK hP 0 rfl rfl 1 (by decide) hf20 (fun _ h9 => h9) rfl dX1_knownTo_43 ?_
          refine lv_iload hx hb dX1_knownTo_46 (lv_at hl 0 rfl) ?_
          refine rcV (As := [.int (nI (hd (P 4) (ow N i)))]) (rest := []) (ci := 2) ⟨hx, hb, hml, hown, hts⟩ (kX2_isStruckOut l D cI cZ pe hP_ aP np P (nI (hd (P 4) (ow N i))) (by first | assumption | omega)) (cwV 1 hts gX1_knownTo_X2_isStruckOut rfl rfl rfl (by decide +kernel) ⟨Nat.le_of_ble_eq_true rfl, Nat.le_of_ble_eq_true rfl⟩) hK hP [3, 4, 5] rfl rfl rfl rfl rfl hl.1 rfl (Nat.le_of_ble_eq_true rfl) ⟨Nat.zero_le _, Nat.zero_le _⟩ dX1_knownTo_48 ?_
          refine lb_ne (tgt := 61) hx hb dX1_knownTo_51 (by decide) (fun c_51 => ?_) (fun c_51 => ?_)
          · skip
            refine lv_iinc (v := (nI i) + 1) (lv' := [(3, .int (((nI i) + 1))), (4, .int (nI (hd (P 4) (ow N i)))), (0, .ref na), (1, .int h), (2, .int (knw np P N h i))]) hx hb dX1_knownTo_61 hl (k := 4) rfl rfl (by decide) rfl (fun ls hl => ?_)
            refine lv_goto (tgt := 4) hx hb dX1_knownTo_64 (by decide) ?_
            rw [nI_1 i] at hl
            rw [show knw np P N h i = knw np P N h (i + 1) by rw [knw, if_neg (fun q => by rw [c_51] at q; exact absurd q.2 (by decide))]] at hl
            exact ih (i + 1) ls (by omega) (by omega) (lv_sub hl [2, 3, 4, 0] rfl)
          · skip
            refine lv_iload_n hx hb dX1_knownTo_54 rfl (lv_at hl 3 rfl) ?_
            refine lv_iconst (v := 1) hx hb dX1_knownTo_55 (by decide) ?_
            refine lv_iload hx hb dX1_knownTo_56 (lv_at hl 0 rfl) ?_
            refine lv_ishl hx hb dX1_knownTo_58 ?_
            refine lv_ior hx hb dX1_knownTo_59 ?_
            refine lv_istore_n (lv' := [(2, .int (((knw np P N h i) ||| (1 <<< ((nI (hd (P 4) (ow N i))) &&& 31))))), (4, .int (nI (hd (P 4) (ow N i)))), (0, .ref na), (1, .int h), (3, .int (nI i))]) hx hb dX1_knownTo_60 rfl hl (by decide) rfl (fun ls hl => ?_)
            refine lv_iinc (v := (nI i) + 1) (lv' := [(3, .int (((nI i) + 1))), (2, .int (((knw np P N h i) ||| (1 <<< ((nI (hd (P 4) (ow N i))) &&& 31))))), (4, .int (nI (hd (P 4) (ow N i)))), (0, .ref na), (1, .int h)]) hx hb dX1_knownTo_61 hl (k := 4) rfl rfl (by decide) rfl (fun ls hl => ?_)
            refine lv_goto (tgt := 4) hx hb dX1_knownTo_64 (by decide) ?_
            rw [nI_1 i] at hl
            rw [show ((knw np P N h i) ||| (1 <<< ((nI (hd (P 4) (ow N i))) &&& 31))) = knw np P N h (i + 1) by rw [knw, if_pos ⟨c_39, c_51⟩]] at hl
            exact ih (i + 1) ls (by omega) (by omega) (lv_sub hl [3, 4, 1, 0] rfl)
  exact loop (nn + 1) 0 ls (by omega) (by omega) (lv_sub hl [2, 3, 1, 0] rfl)
